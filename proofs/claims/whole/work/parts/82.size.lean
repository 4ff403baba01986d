/-! THE SIZE of a number in tens -/
def qm_szp (x v : Int) : Prop := (v = 1 ∧ (0 ≤ x ∧ x < 10)) ∨ (v = 2 ∧ (0 ≤ x ∧ x < 100 ∧ 10 ≤ x)) ∨ (v = 3 ∧ (0 ≤ x ∧ x < 1000 ∧ 100 ≤ x)) ∨ (v = 4 ∧ (0 ≤ x ∧ x < 10000 ∧ 1000 ≤ x)) ∨ (v = 5 ∧ (0 ≤ x ∧ x < 100000 ∧ 10000 ≤ x)) ∨ (v = 6 ∧ (0 ≤ x ∧ x < 1000000 ∧ 100000 ≤ x)) ∨ (v = 7 ∧ (0 ≤ x ∧ x < 10000000 ∧ 1000000 ≤ x)) ∨ (v = 8 ∧ (0 ≤ x ∧ x < 100000000 ∧ 10000000 ≤ x)) ∨ (v = 9 ∧ (0 ≤ x ∧ x < 1000000000 ∧ 100000000 ≤ x)) ∨ (v = 10 ∧ 1000000000 ≤ x) ∨ (v = 2 ∧ (x < 0 ∧ -10 < x)) ∨ (v = 3 ∧ (x < 0 ∧ -100 < x ∧ x ≤ -10)) ∨ (v = 4 ∧ (x < 0 ∧ -1000 < x ∧ x ≤ -100)) ∨ (v = 5 ∧ (x < 0 ∧ -10000 < x ∧ x ≤ -1000)) ∨ (v = 6 ∧ (x < 0 ∧ -100000 < x ∧ x ≤ -10000)) ∨ (v = 7 ∧ (x < 0 ∧ -1000000 < x ∧ x ≤ -100000)) ∨ (v = 8 ∧ (x < 0 ∧ -10000000 < x ∧ x ≤ -1000000)) ∨ (v = 9 ∧ (x < 0 ∧ -100000000 < x ∧ x ≤ -10000000)) ∨ (v = 10 ∧ (x < 0 ∧ -1000000000 < x ∧ x ≤ -100000000)) ∨ (v = 11 ∧ x ≤ -1000000000)
theorem qm_d_ssz {Q : Option qm_V → qm_Hp → Prop} {h : qm_Hp} {x : Int} (hx : qm_sm x) (k : ∀ v : Int, qm_szp x v → Q (some (qm_I (qm_i v))) h) : qm_C qm_P 7 [qm_I (qm_i x)] (h) Q := by
  refine qm_C.go (cd := qm_P7) (lv := [(0, qm_I (qm_i x))]) rfl rfl ?_
  refine qm_G.s1 rfl (qm_x_pushI 1 rfl) ?_
  refine qm_G.s1 rfl (qm_x_istore (lv' := [(1, qm_I (qm_i 1)), (0, qm_I (qm_i x))]) rfl) ?_
  refine qm_G.s1 rfl (qm_x_iload rfl) ?_
  refine qm_y_if_lt rfl ⟨by omega, by omega⟩ (fun c1 => ?_) (fun c1 => ?_)
  · refine qm_G.sp (lv1 := [(0, qm_I (qm_i x)), (1, qm_I (qm_i 1))]) rfl rfl (qm_x_pushI (-10) rfl) ?_
    refine qm_G.s1 rfl (qm_x_istore (lv' := [(2, qm_I (qm_i (-10))), (0, qm_I (qm_i x)), (1, qm_I (qm_i 1))]) rfl) ?_
    refine qm_G.s1 rfl (qm_x_pushI 1 rfl) ?_
    refine qm_G.s1 rfl (qm_x_istore (lv' := [(3, qm_I (qm_i 1)), (2, qm_I (qm_i (-10))), (0, qm_I (qm_i x)), (1, qm_I (qm_i 1))]) rfl) ?_
    refine qm_G.sp (lv1 := [(0, qm_I (qm_i x)), (1, qm_I (qm_i 1)), (2, qm_I (qm_i (-10))), (3, qm_I (qm_i 1))]) rfl rfl (qm_x_iload rfl) ?_
    refine qm_G.s1 rfl (qm_x_pushI 10 rfl) ?_
    refine qm_G.s1 rfl (qm_x_icmp_ge_f ⟨by decide, by decide⟩ ⟨by decide, by decide⟩ (by decide)) ?_
    refine qm_G.s1 rfl (qm_x_iload rfl) ?_
    refine qm_G.s1 rfl (qm_x_iload rfl) ?_
    refine qm_y_icmp_le rfl ⟨by omega, by omega⟩ ⟨by decide, by decide⟩ (fun c2 => ?_) (fun c2 => ?_)
    · refine qm_G.sp (lv1 := [(0, qm_I (qm_i x)), (1, qm_I (qm_i 1)), (2, qm_I (qm_i (-10))), (3, qm_I (qm_i 1))]) rfl rfl (qm_x_pushI 10 rfl) ?_
      refine qm_G.s1 rfl (qm_x_iload rfl) ?_
      refine qm_G.s1 rfl (qm_x_imul) ?_
      refine qm_G.s1 rfl (qm_x_istore (lv' := [(2, qm_I (qm_i (10 * (-10)))), (0, qm_I (qm_i x)), (1, qm_I (qm_i 1)), (3, qm_I (qm_i 1))]) rfl) ?_
      refine qm_G.s1 rfl (qm_x_iinc (lv' := [(3, qm_I (qm_i (1 + 1))), (2, qm_I (qm_i (10 * (-10)))), (0, qm_I (qm_i x)), (1, qm_I (qm_i 1))]) 1 rfl rfl rfl) ?_
      refine qm_G.s1 rfl (qm_x_goto) ?_
      refine qm_G.sp (lv1 := [(0, qm_I (qm_i x)), (1, qm_I (qm_i 1)), (2, qm_I (qm_i (10 * (-10)))), (3, qm_I (qm_i (1 + 1)))]) rfl rfl (qm_x_iload rfl) ?_
      refine qm_G.s1 rfl (qm_x_pushI 10 rfl) ?_
      refine qm_G.s1 rfl (qm_x_icmp_ge_f ⟨by decide, by decide⟩ ⟨by decide, by decide⟩ (by decide)) ?_
      refine qm_G.s1 rfl (qm_x_iload rfl) ?_
      refine qm_G.s1 rfl (qm_x_iload rfl) ?_
      refine qm_y_icmp_le rfl ⟨by omega, by omega⟩ ⟨by decide, by decide⟩ (fun c3 => ?_) (fun c3 => ?_)
      · refine qm_G.sp (lv1 := [(0, qm_I (qm_i x)), (1, qm_I (qm_i 1)), (2, qm_I (qm_i (10 * (-10)))), (3, qm_I (qm_i (1 + 1)))]) rfl rfl (qm_x_pushI 10 rfl) ?_
        refine qm_G.s1 rfl (qm_x_iload rfl) ?_
        refine qm_G.s1 rfl (qm_x_imul) ?_
        refine qm_G.s1 rfl (qm_x_istore (lv' := [(2, qm_I (qm_i (10 * (10 * (-10))))), (0, qm_I (qm_i x)), (1, qm_I (qm_i 1)), (3, qm_I (qm_i (1 + 1)))]) rfl) ?_
        refine qm_G.s1 rfl (qm_x_iinc (lv' := [(3, qm_I (qm_i ((1 + 1) + 1))), (2, qm_I (qm_i (10 * (10 * (-10))))), (0, qm_I (qm_i x)), (1, qm_I (qm_i 1))]) 1 rfl rfl rfl) ?_
        refine qm_G.s1 rfl (qm_x_goto) ?_
        refine qm_G.sp (lv1 := [(0, qm_I (qm_i x)), (1, qm_I (qm_i 1)), (2, qm_I (qm_i (10 * (10 * (-10))))), (3, qm_I (qm_i ((1 + 1) + 1)))]) rfl rfl (qm_x_iload rfl) ?_
        refine qm_G.s1 rfl (qm_x_pushI 10 rfl) ?_
        refine qm_G.s1 rfl (qm_x_icmp_ge_f ⟨by decide, by decide⟩ ⟨by decide, by decide⟩ (by decide)) ?_
        refine qm_G.s1 rfl (qm_x_iload rfl) ?_
        refine qm_G.s1 rfl (qm_x_iload rfl) ?_
        refine qm_y_icmp_le rfl ⟨by omega, by omega⟩ ⟨by decide, by decide⟩ (fun c4 => ?_) (fun c4 => ?_)
        · refine qm_G.sp (lv1 := [(0, qm_I (qm_i x)), (1, qm_I (qm_i 1)), (2, qm_I (qm_i (10 * (10 * (-10))))), (3, qm_I (qm_i ((1 + 1) + 1)))]) rfl rfl (qm_x_pushI 10 rfl) ?_
          refine qm_G.s1 rfl (qm_x_iload rfl) ?_
          refine qm_G.s1 rfl (qm_x_imul) ?_
          refine qm_G.s1 rfl (qm_x_istore (lv' := [(2, qm_I (qm_i (10 * (10 * (10 * (-10)))))), (0, qm_I (qm_i x)), (1, qm_I (qm_i 1)), (3, qm_I (qm_i ((1 + 1) + 1)))]) rfl) ?_
          refine qm_G.s1 rfl (qm_x_iinc (lv' := [(3, qm_I (qm_i (((1 + 1) + 1) + 1))), (2, qm_I (qm_i (10 * (10 * (10 * (-10)))))), (0, qm_I (qm_i x)), (1, qm_I (qm_i 1))]) 1 rfl rfl rfl) ?_
          refine qm_G.s1 rfl (qm_x_goto) ?_
          refine qm_G.sp (lv1 := [(0, qm_I (qm_i x)), (1, qm_I (qm_i 1)), (2, qm_I (qm_i (10 * (10 * (10 * (-10)))))), (3, qm_I (qm_i (((1 + 1) + 1) + 1)))]) rfl rfl (qm_x_iload rfl) ?_
          refine qm_G.s1 rfl (qm_x_pushI 10 rfl) ?_
          refine qm_G.s1 rfl (qm_x_icmp_ge_f ⟨by decide, by decide⟩ ⟨by decide, by decide⟩ (by decide)) ?_
          refine qm_G.s1 rfl (qm_x_iload rfl) ?_
          refine qm_G.s1 rfl (qm_x_iload rfl) ?_
          refine qm_y_icmp_le rfl ⟨by omega, by omega⟩ ⟨by decide, by decide⟩ (fun c5 => ?_) (fun c5 => ?_)
          · refine qm_G.sp (lv1 := [(0, qm_I (qm_i x)), (1, qm_I (qm_i 1)), (2, qm_I (qm_i (10 * (10 * (10 * (-10)))))), (3, qm_I (qm_i (((1 + 1) + 1) + 1)))]) rfl rfl (qm_x_pushI 10 rfl) ?_
            refine qm_G.s1 rfl (qm_x_iload rfl) ?_
            refine qm_G.s1 rfl (qm_x_imul) ?_
            refine qm_G.s1 rfl (qm_x_istore (lv' := [(2, qm_I (qm_i (10 * (10 * (10 * (10 * (-10))))))), (0, qm_I (qm_i x)), (1, qm_I (qm_i 1)), (3, qm_I (qm_i (((1 + 1) + 1) + 1)))]) rfl) ?_
            refine qm_G.s1 rfl (qm_x_iinc (lv' := [(3, qm_I (qm_i ((((1 + 1) + 1) + 1) + 1))), (2, qm_I (qm_i (10 * (10 * (10 * (10 * (-10))))))), (0, qm_I (qm_i x)), (1, qm_I (qm_i 1))]) 1 rfl rfl rfl) ?_
            refine qm_G.s1 rfl (qm_x_goto) ?_
            refine qm_G.sp (lv1 := [(0, qm_I (qm_i x)), (1, qm_I (qm_i 1)), (2, qm_I (qm_i (10 * (10 * (10 * (10 * (-10))))))), (3, qm_I (qm_i ((((1 + 1) + 1) + 1) + 1)))]) rfl rfl (qm_x_iload rfl) ?_
            refine qm_G.s1 rfl (qm_x_pushI 10 rfl) ?_
            refine qm_G.s1 rfl (qm_x_icmp_ge_f ⟨by decide, by decide⟩ ⟨by decide, by decide⟩ (by decide)) ?_
            refine qm_G.s1 rfl (qm_x_iload rfl) ?_
            refine qm_G.s1 rfl (qm_x_iload rfl) ?_
            refine qm_y_icmp_le rfl ⟨by omega, by omega⟩ ⟨by decide, by decide⟩ (fun c6 => ?_) (fun c6 => ?_)
            · refine qm_G.sp (lv1 := [(0, qm_I (qm_i x)), (1, qm_I (qm_i 1)), (2, qm_I (qm_i (10 * (10 * (10 * (10 * (-10))))))), (3, qm_I (qm_i ((((1 + 1) + 1) + 1) + 1)))]) rfl rfl (qm_x_pushI 10 rfl) ?_
              refine qm_G.s1 rfl (qm_x_iload rfl) ?_
              refine qm_G.s1 rfl (qm_x_imul) ?_
              refine qm_G.s1 rfl (qm_x_istore (lv' := [(2, qm_I (qm_i (10 * (10 * (10 * (10 * (10 * (-10)))))))), (0, qm_I (qm_i x)), (1, qm_I (qm_i 1)), (3, qm_I (qm_i ((((1 + 1) + 1) + 1) + 1)))]) rfl) ?_
              refine qm_G.s1 rfl (qm_x_iinc (lv' := [(3, qm_I (qm_i (((((1 + 1) + 1) + 1) + 1) + 1))), (2, qm_I (qm_i (10 * (10 * (10 * (10 * (10 * (-10)))))))), (0, qm_I (qm_i x)), (1, qm_I (qm_i 1))]) 1 rfl rfl rfl) ?_
              refine qm_G.s1 rfl (qm_x_goto) ?_
              refine qm_G.sp (lv1 := [(0, qm_I (qm_i x)), (1, qm_I (qm_i 1)), (2, qm_I (qm_i (10 * (10 * (10 * (10 * (10 * (-10)))))))), (3, qm_I (qm_i (((((1 + 1) + 1) + 1) + 1) + 1)))]) rfl rfl (qm_x_iload rfl) ?_
              refine qm_G.s1 rfl (qm_x_pushI 10 rfl) ?_
              refine qm_G.s1 rfl (qm_x_icmp_ge_f ⟨by decide, by decide⟩ ⟨by decide, by decide⟩ (by decide)) ?_
              refine qm_G.s1 rfl (qm_x_iload rfl) ?_
              refine qm_G.s1 rfl (qm_x_iload rfl) ?_
              refine qm_y_icmp_le rfl ⟨by omega, by omega⟩ ⟨by decide, by decide⟩ (fun c7 => ?_) (fun c7 => ?_)
              · refine qm_G.sp (lv1 := [(0, qm_I (qm_i x)), (1, qm_I (qm_i 1)), (2, qm_I (qm_i (10 * (10 * (10 * (10 * (10 * (-10)))))))), (3, qm_I (qm_i (((((1 + 1) + 1) + 1) + 1) + 1)))]) rfl rfl (qm_x_pushI 10 rfl) ?_
                refine qm_G.s1 rfl (qm_x_iload rfl) ?_
                refine qm_G.s1 rfl (qm_x_imul) ?_
                refine qm_G.s1 rfl (qm_x_istore (lv' := [(2, qm_I (qm_i (10 * (10 * (10 * (10 * (10 * (10 * (-10))))))))), (0, qm_I (qm_i x)), (1, qm_I (qm_i 1)), (3, qm_I (qm_i (((((1 + 1) + 1) + 1) + 1) + 1)))]) rfl) ?_
                refine qm_G.s1 rfl (qm_x_iinc (lv' := [(3, qm_I (qm_i ((((((1 + 1) + 1) + 1) + 1) + 1) + 1))), (2, qm_I (qm_i (10 * (10 * (10 * (10 * (10 * (10 * (-10))))))))), (0, qm_I (qm_i x)), (1, qm_I (qm_i 1))]) 1 rfl rfl rfl) ?_
                refine qm_G.s1 rfl (qm_x_goto) ?_
                refine qm_G.sp (lv1 := [(0, qm_I (qm_i x)), (1, qm_I (qm_i 1)), (2, qm_I (qm_i (10 * (10 * (10 * (10 * (10 * (10 * (-10))))))))), (3, qm_I (qm_i ((((((1 + 1) + 1) + 1) + 1) + 1) + 1)))]) rfl rfl (qm_x_iload rfl) ?_
                refine qm_G.s1 rfl (qm_x_pushI 10 rfl) ?_
                refine qm_G.s1 rfl (qm_x_icmp_ge_f ⟨by decide, by decide⟩ ⟨by decide, by decide⟩ (by decide)) ?_
                refine qm_G.s1 rfl (qm_x_iload rfl) ?_
                refine qm_G.s1 rfl (qm_x_iload rfl) ?_
                refine qm_y_icmp_le rfl ⟨by omega, by omega⟩ ⟨by decide, by decide⟩ (fun c8 => ?_) (fun c8 => ?_)
                · refine qm_G.sp (lv1 := [(0, qm_I (qm_i x)), (1, qm_I (qm_i 1)), (2, qm_I (qm_i (10 * (10 * (10 * (10 * (10 * (10 * (-10))))))))), (3, qm_I (qm_i ((((((1 + 1) + 1) + 1) + 1) + 1) + 1)))]) rfl rfl (qm_x_pushI 10 rfl) ?_
                  refine qm_G.s1 rfl (qm_x_iload rfl) ?_
                  refine qm_G.s1 rfl (qm_x_imul) ?_
                  refine qm_G.s1 rfl (qm_x_istore (lv' := [(2, qm_I (qm_i (10 * (10 * (10 * (10 * (10 * (10 * (10 * (-10)))))))))), (0, qm_I (qm_i x)), (1, qm_I (qm_i 1)), (3, qm_I (qm_i ((((((1 + 1) + 1) + 1) + 1) + 1) + 1)))]) rfl) ?_
                  refine qm_G.s1 rfl (qm_x_iinc (lv' := [(3, qm_I (qm_i (((((((1 + 1) + 1) + 1) + 1) + 1) + 1) + 1))), (2, qm_I (qm_i (10 * (10 * (10 * (10 * (10 * (10 * (10 * (-10)))))))))), (0, qm_I (qm_i x)), (1, qm_I (qm_i 1))]) 1 rfl rfl rfl) ?_
                  refine qm_G.s1 rfl (qm_x_goto) ?_
                  refine qm_G.sp (lv1 := [(0, qm_I (qm_i x)), (1, qm_I (qm_i 1)), (2, qm_I (qm_i (10 * (10 * (10 * (10 * (10 * (10 * (10 * (-10)))))))))), (3, qm_I (qm_i (((((((1 + 1) + 1) + 1) + 1) + 1) + 1) + 1)))]) rfl rfl (qm_x_iload rfl) ?_
                  refine qm_G.s1 rfl (qm_x_pushI 10 rfl) ?_
                  refine qm_G.s1 rfl (qm_x_icmp_ge_f ⟨by decide, by decide⟩ ⟨by decide, by decide⟩ (by decide)) ?_
                  refine qm_G.s1 rfl (qm_x_iload rfl) ?_
                  refine qm_G.s1 rfl (qm_x_iload rfl) ?_
                  refine qm_y_icmp_le rfl ⟨by omega, by omega⟩ ⟨by decide, by decide⟩ (fun c9 => ?_) (fun c9 => ?_)
                  · refine qm_G.sp (lv1 := [(0, qm_I (qm_i x)), (1, qm_I (qm_i 1)), (2, qm_I (qm_i (10 * (10 * (10 * (10 * (10 * (10 * (10 * (-10)))))))))), (3, qm_I (qm_i (((((((1 + 1) + 1) + 1) + 1) + 1) + 1) + 1)))]) rfl rfl (qm_x_pushI 10 rfl) ?_
                    refine qm_G.s1 rfl (qm_x_iload rfl) ?_
                    refine qm_G.s1 rfl (qm_x_imul) ?_
                    refine qm_G.s1 rfl (qm_x_istore (lv' := [(2, qm_I (qm_i (10 * (10 * (10 * (10 * (10 * (10 * (10 * (10 * (-10))))))))))), (0, qm_I (qm_i x)), (1, qm_I (qm_i 1)), (3, qm_I (qm_i (((((((1 + 1) + 1) + 1) + 1) + 1) + 1) + 1)))]) rfl) ?_
                    refine qm_G.s1 rfl (qm_x_iinc (lv' := [(3, qm_I (qm_i ((((((((1 + 1) + 1) + 1) + 1) + 1) + 1) + 1) + 1))), (2, qm_I (qm_i (10 * (10 * (10 * (10 * (10 * (10 * (10 * (10 * (-10))))))))))), (0, qm_I (qm_i x)), (1, qm_I (qm_i 1))]) 1 rfl rfl rfl) ?_
                    refine qm_G.s1 rfl (qm_x_goto) ?_
                    refine qm_G.sp (lv1 := [(0, qm_I (qm_i x)), (1, qm_I (qm_i 1)), (2, qm_I (qm_i (10 * (10 * (10 * (10 * (10 * (10 * (10 * (10 * (-10))))))))))), (3, qm_I (qm_i ((((((((1 + 1) + 1) + 1) + 1) + 1) + 1) + 1) + 1)))]) rfl rfl (qm_x_iload rfl) ?_
                    refine qm_G.s1 rfl (qm_x_pushI 10 rfl) ?_
                    refine qm_G.s1 rfl (qm_x_icmp_ge_f ⟨by decide, by decide⟩ ⟨by decide, by decide⟩ (by decide)) ?_
                    refine qm_G.s1 rfl (qm_x_iload rfl) ?_
                    refine qm_G.s1 rfl (qm_x_iload rfl) ?_
                    refine qm_y_icmp_le rfl ⟨by omega, by omega⟩ ⟨by decide, by decide⟩ (fun c10 => ?_) (fun c10 => ?_)
                    · refine qm_G.sp (lv1 := [(0, qm_I (qm_i x)), (1, qm_I (qm_i 1)), (2, qm_I (qm_i (10 * (10 * (10 * (10 * (10 * (10 * (10 * (10 * (-10))))))))))), (3, qm_I (qm_i ((((((((1 + 1) + 1) + 1) + 1) + 1) + 1) + 1) + 1)))]) rfl rfl (qm_x_pushI 10 rfl) ?_
                      refine qm_G.s1 rfl (qm_x_iload rfl) ?_
                      refine qm_G.s1 rfl (qm_x_imul) ?_
                      refine qm_G.s1 rfl (qm_x_istore (lv' := [(2, qm_I (qm_i (10 * (10 * (10 * (10 * (10 * (10 * (10 * (10 * (10 * (-10)))))))))))), (0, qm_I (qm_i x)), (1, qm_I (qm_i 1)), (3, qm_I (qm_i ((((((((1 + 1) + 1) + 1) + 1) + 1) + 1) + 1) + 1)))]) rfl) ?_
                      refine qm_G.s1 rfl (qm_x_iinc (lv' := [(3, qm_I (qm_i (((((((((1 + 1) + 1) + 1) + 1) + 1) + 1) + 1) + 1) + 1))), (2, qm_I (qm_i (10 * (10 * (10 * (10 * (10 * (10 * (10 * (10 * (10 * (-10)))))))))))), (0, qm_I (qm_i x)), (1, qm_I (qm_i 1))]) 1 rfl rfl rfl) ?_
                      refine qm_G.s1 rfl (qm_x_goto) ?_
                      refine qm_G.sp (lv1 := [(0, qm_I (qm_i x)), (1, qm_I (qm_i 1)), (2, qm_I (qm_i (10 * (10 * (10 * (10 * (10 * (10 * (10 * (10 * (10 * (-10)))))))))))), (3, qm_I (qm_i (((((((((1 + 1) + 1) + 1) + 1) + 1) + 1) + 1) + 1) + 1)))]) rfl rfl (qm_x_iload rfl) ?_
                      refine qm_G.s1 rfl (qm_x_pushI 10 rfl) ?_
                      refine qm_G.s1 rfl (qm_x_icmp_ge_t ⟨by decide, by decide⟩ ⟨by decide, by decide⟩ (by decide)) ?_
                      refine qm_G.sp (lv1 := [(1, qm_I (qm_i 1))]) rfl rfl (qm_x_pushI 10 rfl) ?_
                      refine qm_G.s1 rfl (qm_x_iload rfl) ?_
                      refine qm_G.s1 rfl (qm_x_iadd) ?_
                      exact qm_G.ret rfl rfl (k _ (Or.inr (Or.inr (Or.inr (Or.inr (Or.inr (Or.inr (Or.inr (Or.inr (Or.inr (Or.inr (Or.inr (Or.inr (Or.inr (Or.inr (Or.inr (Or.inr (Or.inr (Or.inr (Or.inr (⟨by decide, by omega⟩)))))))))))))))))))))
                    · refine qm_G.s1 rfl (qm_x_iload rfl) ?_
                      refine qm_G.s1 rfl (qm_x_iload rfl) ?_
                      refine qm_G.s1 rfl (qm_x_iadd) ?_
                      exact qm_G.ret rfl rfl (k _ (Or.inr (Or.inr (Or.inr (Or.inr (Or.inr (Or.inr (Or.inr (Or.inr (Or.inr (Or.inr (Or.inr (Or.inr (Or.inr (Or.inr (Or.inr (Or.inr (Or.inr (Or.inr (Or.inl ⟨by decide, by omega⟩))))))))))))))))))))
                  · refine qm_G.s1 rfl (qm_x_iload rfl) ?_
                    refine qm_G.s1 rfl (qm_x_iload rfl) ?_
                    refine qm_G.s1 rfl (qm_x_iadd) ?_
                    exact qm_G.ret rfl rfl (k _ (Or.inr (Or.inr (Or.inr (Or.inr (Or.inr (Or.inr (Or.inr (Or.inr (Or.inr (Or.inr (Or.inr (Or.inr (Or.inr (Or.inr (Or.inr (Or.inr (Or.inr (Or.inl ⟨by decide, by omega⟩)))))))))))))))))))
                · refine qm_G.s1 rfl (qm_x_iload rfl) ?_
                  refine qm_G.s1 rfl (qm_x_iload rfl) ?_
                  refine qm_G.s1 rfl (qm_x_iadd) ?_
                  exact qm_G.ret rfl rfl (k _ (Or.inr (Or.inr (Or.inr (Or.inr (Or.inr (Or.inr (Or.inr (Or.inr (Or.inr (Or.inr (Or.inr (Or.inr (Or.inr (Or.inr (Or.inr (Or.inr (Or.inl ⟨by decide, by omega⟩))))))))))))))))))
              · refine qm_G.s1 rfl (qm_x_iload rfl) ?_
                refine qm_G.s1 rfl (qm_x_iload rfl) ?_
                refine qm_G.s1 rfl (qm_x_iadd) ?_
                exact qm_G.ret rfl rfl (k _ (Or.inr (Or.inr (Or.inr (Or.inr (Or.inr (Or.inr (Or.inr (Or.inr (Or.inr (Or.inr (Or.inr (Or.inr (Or.inr (Or.inr (Or.inr (Or.inl ⟨by decide, by omega⟩)))))))))))))))))
            · refine qm_G.s1 rfl (qm_x_iload rfl) ?_
              refine qm_G.s1 rfl (qm_x_iload rfl) ?_
              refine qm_G.s1 rfl (qm_x_iadd) ?_
              exact qm_G.ret rfl rfl (k _ (Or.inr (Or.inr (Or.inr (Or.inr (Or.inr (Or.inr (Or.inr (Or.inr (Or.inr (Or.inr (Or.inr (Or.inr (Or.inr (Or.inr (Or.inl ⟨by decide, by omega⟩))))))))))))))))
          · refine qm_G.s1 rfl (qm_x_iload rfl) ?_
            refine qm_G.s1 rfl (qm_x_iload rfl) ?_
            refine qm_G.s1 rfl (qm_x_iadd) ?_
            exact qm_G.ret rfl rfl (k _ (Or.inr (Or.inr (Or.inr (Or.inr (Or.inr (Or.inr (Or.inr (Or.inr (Or.inr (Or.inr (Or.inr (Or.inr (Or.inr (Or.inl ⟨by decide, by omega⟩)))))))))))))))
        · refine qm_G.s1 rfl (qm_x_iload rfl) ?_
          refine qm_G.s1 rfl (qm_x_iload rfl) ?_
          refine qm_G.s1 rfl (qm_x_iadd) ?_
          exact qm_G.ret rfl rfl (k _ (Or.inr (Or.inr (Or.inr (Or.inr (Or.inr (Or.inr (Or.inr (Or.inr (Or.inr (Or.inr (Or.inr (Or.inr (Or.inl ⟨by decide, by omega⟩))))))))))))))
      · refine qm_G.s1 rfl (qm_x_iload rfl) ?_
        refine qm_G.s1 rfl (qm_x_iload rfl) ?_
        refine qm_G.s1 rfl (qm_x_iadd) ?_
        exact qm_G.ret rfl rfl (k _ (Or.inr (Or.inr (Or.inr (Or.inr (Or.inr (Or.inr (Or.inr (Or.inr (Or.inr (Or.inr (Or.inr (Or.inl ⟨by decide, by omega⟩)))))))))))))
    · refine qm_G.s1 rfl (qm_x_iload rfl) ?_
      refine qm_G.s1 rfl (qm_x_iload rfl) ?_
      refine qm_G.s1 rfl (qm_x_iadd) ?_
      exact qm_G.ret rfl rfl (k _ (Or.inr (Or.inr (Or.inr (Or.inr (Or.inr (Or.inr (Or.inr (Or.inr (Or.inr (Or.inr (Or.inl ⟨by decide, by omega⟩))))))))))))
  · refine qm_G.s1 rfl (qm_x_pushI 0 rfl) ?_
    refine qm_G.s1 rfl (qm_x_istore (lv' := [(1, qm_I (qm_i 0)), (0, qm_I (qm_i x))]) rfl) ?_
    refine qm_G.s1 rfl (qm_x_iload rfl) ?_
    refine qm_G.s1 rfl (qm_x_ineg) ?_
    refine qm_G.s1 rfl (qm_x_istore (lv' := [(0, qm_I (qm_i (-x))), (1, qm_I (qm_i 0))]) rfl) ?_
    refine qm_G.sp (lv1 := [(0, qm_I (qm_i (-x))), (1, qm_I (qm_i 0))]) rfl rfl (qm_x_pushI (-10) rfl) ?_
    refine qm_G.s1 rfl (qm_x_istore (lv' := [(2, qm_I (qm_i (-10))), (0, qm_I (qm_i (-x))), (1, qm_I (qm_i 0))]) rfl) ?_
    refine qm_G.s1 rfl (qm_x_pushI 1 rfl) ?_
    refine qm_G.s1 rfl (qm_x_istore (lv' := [(3, qm_I (qm_i 1)), (2, qm_I (qm_i (-10))), (0, qm_I (qm_i (-x))), (1, qm_I (qm_i 0))]) rfl) ?_
    refine qm_G.sp (lv1 := [(0, qm_I (qm_i (-x))), (1, qm_I (qm_i 0)), (2, qm_I (qm_i (-10))), (3, qm_I (qm_i 1))]) rfl rfl (qm_x_iload rfl) ?_
    refine qm_G.s1 rfl (qm_x_pushI 10 rfl) ?_
    refine qm_G.s1 rfl (qm_x_icmp_ge_f ⟨by decide, by decide⟩ ⟨by decide, by decide⟩ (by decide)) ?_
    refine qm_G.s1 rfl (qm_x_iload rfl) ?_
    refine qm_G.s1 rfl (qm_x_iload rfl) ?_
    refine qm_y_icmp_le rfl ⟨by omega, by omega⟩ ⟨by decide, by decide⟩ (fun c11 => ?_) (fun c11 => ?_)
    · refine qm_G.sp (lv1 := [(0, qm_I (qm_i (-x))), (1, qm_I (qm_i 0)), (2, qm_I (qm_i (-10))), (3, qm_I (qm_i 1))]) rfl rfl (qm_x_pushI 10 rfl) ?_
      refine qm_G.s1 rfl (qm_x_iload rfl) ?_
      refine qm_G.s1 rfl (qm_x_imul) ?_
      refine qm_G.s1 rfl (qm_x_istore (lv' := [(2, qm_I (qm_i (10 * (-10)))), (0, qm_I (qm_i (-x))), (1, qm_I (qm_i 0)), (3, qm_I (qm_i 1))]) rfl) ?_
      refine qm_G.s1 rfl (qm_x_iinc (lv' := [(3, qm_I (qm_i (1 + 1))), (2, qm_I (qm_i (10 * (-10)))), (0, qm_I (qm_i (-x))), (1, qm_I (qm_i 0))]) 1 rfl rfl rfl) ?_
      refine qm_G.s1 rfl (qm_x_goto) ?_
      refine qm_G.sp (lv1 := [(0, qm_I (qm_i (-x))), (1, qm_I (qm_i 0)), (2, qm_I (qm_i (10 * (-10)))), (3, qm_I (qm_i (1 + 1)))]) rfl rfl (qm_x_iload rfl) ?_
      refine qm_G.s1 rfl (qm_x_pushI 10 rfl) ?_
      refine qm_G.s1 rfl (qm_x_icmp_ge_f ⟨by decide, by decide⟩ ⟨by decide, by decide⟩ (by decide)) ?_
      refine qm_G.s1 rfl (qm_x_iload rfl) ?_
      refine qm_G.s1 rfl (qm_x_iload rfl) ?_
      refine qm_y_icmp_le rfl ⟨by omega, by omega⟩ ⟨by decide, by decide⟩ (fun c12 => ?_) (fun c12 => ?_)
      · refine qm_G.sp (lv1 := [(0, qm_I (qm_i (-x))), (1, qm_I (qm_i 0)), (2, qm_I (qm_i (10 * (-10)))), (3, qm_I (qm_i (1 + 1)))]) rfl rfl (qm_x_pushI 10 rfl) ?_
        refine qm_G.s1 rfl (qm_x_iload rfl) ?_
        refine qm_G.s1 rfl (qm_x_imul) ?_
        refine qm_G.s1 rfl (qm_x_istore (lv' := [(2, qm_I (qm_i (10 * (10 * (-10))))), (0, qm_I (qm_i (-x))), (1, qm_I (qm_i 0)), (3, qm_I (qm_i (1 + 1)))]) rfl) ?_
        refine qm_G.s1 rfl (qm_x_iinc (lv' := [(3, qm_I (qm_i ((1 + 1) + 1))), (2, qm_I (qm_i (10 * (10 * (-10))))), (0, qm_I (qm_i (-x))), (1, qm_I (qm_i 0))]) 1 rfl rfl rfl) ?_
        refine qm_G.s1 rfl (qm_x_goto) ?_
        refine qm_G.sp (lv1 := [(0, qm_I (qm_i (-x))), (1, qm_I (qm_i 0)), (2, qm_I (qm_i (10 * (10 * (-10))))), (3, qm_I (qm_i ((1 + 1) + 1)))]) rfl rfl (qm_x_iload rfl) ?_
        refine qm_G.s1 rfl (qm_x_pushI 10 rfl) ?_
        refine qm_G.s1 rfl (qm_x_icmp_ge_f ⟨by decide, by decide⟩ ⟨by decide, by decide⟩ (by decide)) ?_
        refine qm_G.s1 rfl (qm_x_iload rfl) ?_
        refine qm_G.s1 rfl (qm_x_iload rfl) ?_
        refine qm_y_icmp_le rfl ⟨by omega, by omega⟩ ⟨by decide, by decide⟩ (fun c13 => ?_) (fun c13 => ?_)
        · refine qm_G.sp (lv1 := [(0, qm_I (qm_i (-x))), (1, qm_I (qm_i 0)), (2, qm_I (qm_i (10 * (10 * (-10))))), (3, qm_I (qm_i ((1 + 1) + 1)))]) rfl rfl (qm_x_pushI 10 rfl) ?_
          refine qm_G.s1 rfl (qm_x_iload rfl) ?_
          refine qm_G.s1 rfl (qm_x_imul) ?_
          refine qm_G.s1 rfl (qm_x_istore (lv' := [(2, qm_I (qm_i (10 * (10 * (10 * (-10)))))), (0, qm_I (qm_i (-x))), (1, qm_I (qm_i 0)), (3, qm_I (qm_i ((1 + 1) + 1)))]) rfl) ?_
          refine qm_G.s1 rfl (qm_x_iinc (lv' := [(3, qm_I (qm_i (((1 + 1) + 1) + 1))), (2, qm_I (qm_i (10 * (10 * (10 * (-10)))))), (0, qm_I (qm_i (-x))), (1, qm_I (qm_i 0))]) 1 rfl rfl rfl) ?_
          refine qm_G.s1 rfl (qm_x_goto) ?_
          refine qm_G.sp (lv1 := [(0, qm_I (qm_i (-x))), (1, qm_I (qm_i 0)), (2, qm_I (qm_i (10 * (10 * (10 * (-10)))))), (3, qm_I (qm_i (((1 + 1) + 1) + 1)))]) rfl rfl (qm_x_iload rfl) ?_
          refine qm_G.s1 rfl (qm_x_pushI 10 rfl) ?_
          refine qm_G.s1 rfl (qm_x_icmp_ge_f ⟨by decide, by decide⟩ ⟨by decide, by decide⟩ (by decide)) ?_
          refine qm_G.s1 rfl (qm_x_iload rfl) ?_
          refine qm_G.s1 rfl (qm_x_iload rfl) ?_
          refine qm_y_icmp_le rfl ⟨by omega, by omega⟩ ⟨by decide, by decide⟩ (fun c14 => ?_) (fun c14 => ?_)
          · refine qm_G.sp (lv1 := [(0, qm_I (qm_i (-x))), (1, qm_I (qm_i 0)), (2, qm_I (qm_i (10 * (10 * (10 * (-10)))))), (3, qm_I (qm_i (((1 + 1) + 1) + 1)))]) rfl rfl (qm_x_pushI 10 rfl) ?_
            refine qm_G.s1 rfl (qm_x_iload rfl) ?_
            refine qm_G.s1 rfl (qm_x_imul) ?_
            refine qm_G.s1 rfl (qm_x_istore (lv' := [(2, qm_I (qm_i (10 * (10 * (10 * (10 * (-10))))))), (0, qm_I (qm_i (-x))), (1, qm_I (qm_i 0)), (3, qm_I (qm_i (((1 + 1) + 1) + 1)))]) rfl) ?_
            refine qm_G.s1 rfl (qm_x_iinc (lv' := [(3, qm_I (qm_i ((((1 + 1) + 1) + 1) + 1))), (2, qm_I (qm_i (10 * (10 * (10 * (10 * (-10))))))), (0, qm_I (qm_i (-x))), (1, qm_I (qm_i 0))]) 1 rfl rfl rfl) ?_
            refine qm_G.s1 rfl (qm_x_goto) ?_
            refine qm_G.sp (lv1 := [(0, qm_I (qm_i (-x))), (1, qm_I (qm_i 0)), (2, qm_I (qm_i (10 * (10 * (10 * (10 * (-10))))))), (3, qm_I (qm_i ((((1 + 1) + 1) + 1) + 1)))]) rfl rfl (qm_x_iload rfl) ?_
            refine qm_G.s1 rfl (qm_x_pushI 10 rfl) ?_
            refine qm_G.s1 rfl (qm_x_icmp_ge_f ⟨by decide, by decide⟩ ⟨by decide, by decide⟩ (by decide)) ?_
            refine qm_G.s1 rfl (qm_x_iload rfl) ?_
            refine qm_G.s1 rfl (qm_x_iload rfl) ?_
            refine qm_y_icmp_le rfl ⟨by omega, by omega⟩ ⟨by decide, by decide⟩ (fun c15 => ?_) (fun c15 => ?_)
            · refine qm_G.sp (lv1 := [(0, qm_I (qm_i (-x))), (1, qm_I (qm_i 0)), (2, qm_I (qm_i (10 * (10 * (10 * (10 * (-10))))))), (3, qm_I (qm_i ((((1 + 1) + 1) + 1) + 1)))]) rfl rfl (qm_x_pushI 10 rfl) ?_
              refine qm_G.s1 rfl (qm_x_iload rfl) ?_
              refine qm_G.s1 rfl (qm_x_imul) ?_
              refine qm_G.s1 rfl (qm_x_istore (lv' := [(2, qm_I (qm_i (10 * (10 * (10 * (10 * (10 * (-10)))))))), (0, qm_I (qm_i (-x))), (1, qm_I (qm_i 0)), (3, qm_I (qm_i ((((1 + 1) + 1) + 1) + 1)))]) rfl) ?_
              refine qm_G.s1 rfl (qm_x_iinc (lv' := [(3, qm_I (qm_i (((((1 + 1) + 1) + 1) + 1) + 1))), (2, qm_I (qm_i (10 * (10 * (10 * (10 * (10 * (-10)))))))), (0, qm_I (qm_i (-x))), (1, qm_I (qm_i 0))]) 1 rfl rfl rfl) ?_
              refine qm_G.s1 rfl (qm_x_goto) ?_
              refine qm_G.sp (lv1 := [(0, qm_I (qm_i (-x))), (1, qm_I (qm_i 0)), (2, qm_I (qm_i (10 * (10 * (10 * (10 * (10 * (-10)))))))), (3, qm_I (qm_i (((((1 + 1) + 1) + 1) + 1) + 1)))]) rfl rfl (qm_x_iload rfl) ?_
              refine qm_G.s1 rfl (qm_x_pushI 10 rfl) ?_
              refine qm_G.s1 rfl (qm_x_icmp_ge_f ⟨by decide, by decide⟩ ⟨by decide, by decide⟩ (by decide)) ?_
              refine qm_G.s1 rfl (qm_x_iload rfl) ?_
              refine qm_G.s1 rfl (qm_x_iload rfl) ?_
              refine qm_y_icmp_le rfl ⟨by omega, by omega⟩ ⟨by decide, by decide⟩ (fun c16 => ?_) (fun c16 => ?_)
              · refine qm_G.sp (lv1 := [(0, qm_I (qm_i (-x))), (1, qm_I (qm_i 0)), (2, qm_I (qm_i (10 * (10 * (10 * (10 * (10 * (-10)))))))), (3, qm_I (qm_i (((((1 + 1) + 1) + 1) + 1) + 1)))]) rfl rfl (qm_x_pushI 10 rfl) ?_
                refine qm_G.s1 rfl (qm_x_iload rfl) ?_
                refine qm_G.s1 rfl (qm_x_imul) ?_
                refine qm_G.s1 rfl (qm_x_istore (lv' := [(2, qm_I (qm_i (10 * (10 * (10 * (10 * (10 * (10 * (-10))))))))), (0, qm_I (qm_i (-x))), (1, qm_I (qm_i 0)), (3, qm_I (qm_i (((((1 + 1) + 1) + 1) + 1) + 1)))]) rfl) ?_
                refine qm_G.s1 rfl (qm_x_iinc (lv' := [(3, qm_I (qm_i ((((((1 + 1) + 1) + 1) + 1) + 1) + 1))), (2, qm_I (qm_i (10 * (10 * (10 * (10 * (10 * (10 * (-10))))))))), (0, qm_I (qm_i (-x))), (1, qm_I (qm_i 0))]) 1 rfl rfl rfl) ?_
                refine qm_G.s1 rfl (qm_x_goto) ?_
                refine qm_G.sp (lv1 := [(0, qm_I (qm_i (-x))), (1, qm_I (qm_i 0)), (2, qm_I (qm_i (10 * (10 * (10 * (10 * (10 * (10 * (-10))))))))), (3, qm_I (qm_i ((((((1 + 1) + 1) + 1) + 1) + 1) + 1)))]) rfl rfl (qm_x_iload rfl) ?_
                refine qm_G.s1 rfl (qm_x_pushI 10 rfl) ?_
                refine qm_G.s1 rfl (qm_x_icmp_ge_f ⟨by decide, by decide⟩ ⟨by decide, by decide⟩ (by decide)) ?_
                refine qm_G.s1 rfl (qm_x_iload rfl) ?_
                refine qm_G.s1 rfl (qm_x_iload rfl) ?_
                refine qm_y_icmp_le rfl ⟨by omega, by omega⟩ ⟨by decide, by decide⟩ (fun c17 => ?_) (fun c17 => ?_)
                · refine qm_G.sp (lv1 := [(0, qm_I (qm_i (-x))), (1, qm_I (qm_i 0)), (2, qm_I (qm_i (10 * (10 * (10 * (10 * (10 * (10 * (-10))))))))), (3, qm_I (qm_i ((((((1 + 1) + 1) + 1) + 1) + 1) + 1)))]) rfl rfl (qm_x_pushI 10 rfl) ?_
                  refine qm_G.s1 rfl (qm_x_iload rfl) ?_
                  refine qm_G.s1 rfl (qm_x_imul) ?_
                  refine qm_G.s1 rfl (qm_x_istore (lv' := [(2, qm_I (qm_i (10 * (10 * (10 * (10 * (10 * (10 * (10 * (-10)))))))))), (0, qm_I (qm_i (-x))), (1, qm_I (qm_i 0)), (3, qm_I (qm_i ((((((1 + 1) + 1) + 1) + 1) + 1) + 1)))]) rfl) ?_
                  refine qm_G.s1 rfl (qm_x_iinc (lv' := [(3, qm_I (qm_i (((((((1 + 1) + 1) + 1) + 1) + 1) + 1) + 1))), (2, qm_I (qm_i (10 * (10 * (10 * (10 * (10 * (10 * (10 * (-10)))))))))), (0, qm_I (qm_i (-x))), (1, qm_I (qm_i 0))]) 1 rfl rfl rfl) ?_
                  refine qm_G.s1 rfl (qm_x_goto) ?_
                  refine qm_G.sp (lv1 := [(0, qm_I (qm_i (-x))), (1, qm_I (qm_i 0)), (2, qm_I (qm_i (10 * (10 * (10 * (10 * (10 * (10 * (10 * (-10)))))))))), (3, qm_I (qm_i (((((((1 + 1) + 1) + 1) + 1) + 1) + 1) + 1)))]) rfl rfl (qm_x_iload rfl) ?_
                  refine qm_G.s1 rfl (qm_x_pushI 10 rfl) ?_
                  refine qm_G.s1 rfl (qm_x_icmp_ge_f ⟨by decide, by decide⟩ ⟨by decide, by decide⟩ (by decide)) ?_
                  refine qm_G.s1 rfl (qm_x_iload rfl) ?_
                  refine qm_G.s1 rfl (qm_x_iload rfl) ?_
                  refine qm_y_icmp_le rfl ⟨by omega, by omega⟩ ⟨by decide, by decide⟩ (fun c18 => ?_) (fun c18 => ?_)
                  · refine qm_G.sp (lv1 := [(0, qm_I (qm_i (-x))), (1, qm_I (qm_i 0)), (2, qm_I (qm_i (10 * (10 * (10 * (10 * (10 * (10 * (10 * (-10)))))))))), (3, qm_I (qm_i (((((((1 + 1) + 1) + 1) + 1) + 1) + 1) + 1)))]) rfl rfl (qm_x_pushI 10 rfl) ?_
                    refine qm_G.s1 rfl (qm_x_iload rfl) ?_
                    refine qm_G.s1 rfl (qm_x_imul) ?_
                    refine qm_G.s1 rfl (qm_x_istore (lv' := [(2, qm_I (qm_i (10 * (10 * (10 * (10 * (10 * (10 * (10 * (10 * (-10))))))))))), (0, qm_I (qm_i (-x))), (1, qm_I (qm_i 0)), (3, qm_I (qm_i (((((((1 + 1) + 1) + 1) + 1) + 1) + 1) + 1)))]) rfl) ?_
                    refine qm_G.s1 rfl (qm_x_iinc (lv' := [(3, qm_I (qm_i ((((((((1 + 1) + 1) + 1) + 1) + 1) + 1) + 1) + 1))), (2, qm_I (qm_i (10 * (10 * (10 * (10 * (10 * (10 * (10 * (10 * (-10))))))))))), (0, qm_I (qm_i (-x))), (1, qm_I (qm_i 0))]) 1 rfl rfl rfl) ?_
                    refine qm_G.s1 rfl (qm_x_goto) ?_
                    refine qm_G.sp (lv1 := [(0, qm_I (qm_i (-x))), (1, qm_I (qm_i 0)), (2, qm_I (qm_i (10 * (10 * (10 * (10 * (10 * (10 * (10 * (10 * (-10))))))))))), (3, qm_I (qm_i ((((((((1 + 1) + 1) + 1) + 1) + 1) + 1) + 1) + 1)))]) rfl rfl (qm_x_iload rfl) ?_
                    refine qm_G.s1 rfl (qm_x_pushI 10 rfl) ?_
                    refine qm_G.s1 rfl (qm_x_icmp_ge_f ⟨by decide, by decide⟩ ⟨by decide, by decide⟩ (by decide)) ?_
                    refine qm_G.s1 rfl (qm_x_iload rfl) ?_
                    refine qm_G.s1 rfl (qm_x_iload rfl) ?_
                    refine qm_y_icmp_le rfl ⟨by omega, by omega⟩ ⟨by decide, by decide⟩ (fun c19 => ?_) (fun c19 => ?_)
                    · refine qm_G.sp (lv1 := [(0, qm_I (qm_i (-x))), (1, qm_I (qm_i 0)), (2, qm_I (qm_i (10 * (10 * (10 * (10 * (10 * (10 * (10 * (10 * (-10))))))))))), (3, qm_I (qm_i ((((((((1 + 1) + 1) + 1) + 1) + 1) + 1) + 1) + 1)))]) rfl rfl (qm_x_pushI 10 rfl) ?_
                      refine qm_G.s1 rfl (qm_x_iload rfl) ?_
                      refine qm_G.s1 rfl (qm_x_imul) ?_
                      refine qm_G.s1 rfl (qm_x_istore (lv' := [(2, qm_I (qm_i (10 * (10 * (10 * (10 * (10 * (10 * (10 * (10 * (10 * (-10)))))))))))), (0, qm_I (qm_i (-x))), (1, qm_I (qm_i 0)), (3, qm_I (qm_i ((((((((1 + 1) + 1) + 1) + 1) + 1) + 1) + 1) + 1)))]) rfl) ?_
                      refine qm_G.s1 rfl (qm_x_iinc (lv' := [(3, qm_I (qm_i (((((((((1 + 1) + 1) + 1) + 1) + 1) + 1) + 1) + 1) + 1))), (2, qm_I (qm_i (10 * (10 * (10 * (10 * (10 * (10 * (10 * (10 * (10 * (-10)))))))))))), (0, qm_I (qm_i (-x))), (1, qm_I (qm_i 0))]) 1 rfl rfl rfl) ?_
                      refine qm_G.s1 rfl (qm_x_goto) ?_
                      refine qm_G.sp (lv1 := [(0, qm_I (qm_i (-x))), (1, qm_I (qm_i 0)), (2, qm_I (qm_i (10 * (10 * (10 * (10 * (10 * (10 * (10 * (10 * (10 * (-10)))))))))))), (3, qm_I (qm_i (((((((((1 + 1) + 1) + 1) + 1) + 1) + 1) + 1) + 1) + 1)))]) rfl rfl (qm_x_iload rfl) ?_
                      refine qm_G.s1 rfl (qm_x_pushI 10 rfl) ?_
                      refine qm_G.s1 rfl (qm_x_icmp_ge_t ⟨by decide, by decide⟩ ⟨by decide, by decide⟩ (by decide)) ?_
                      refine qm_G.sp (lv1 := [(1, qm_I (qm_i 0))]) rfl rfl (qm_x_pushI 10 rfl) ?_
                      refine qm_G.s1 rfl (qm_x_iload rfl) ?_
                      refine qm_G.s1 rfl (qm_x_iadd) ?_
                      exact qm_G.ret rfl rfl (k _ (Or.inr (Or.inr (Or.inr (Or.inr (Or.inr (Or.inr (Or.inr (Or.inr (Or.inr (Or.inl ⟨by decide, by omega⟩)))))))))))
                    · refine qm_G.s1 rfl (qm_x_iload rfl) ?_
                      refine qm_G.s1 rfl (qm_x_iload rfl) ?_
                      refine qm_G.s1 rfl (qm_x_iadd) ?_
                      exact qm_G.ret rfl rfl (k _ (Or.inr (Or.inr (Or.inr (Or.inr (Or.inr (Or.inr (Or.inr (Or.inr (Or.inl ⟨by decide, by omega⟩))))))))))
                  · refine qm_G.s1 rfl (qm_x_iload rfl) ?_
                    refine qm_G.s1 rfl (qm_x_iload rfl) ?_
                    refine qm_G.s1 rfl (qm_x_iadd) ?_
                    exact qm_G.ret rfl rfl (k _ (Or.inr (Or.inr (Or.inr (Or.inr (Or.inr (Or.inr (Or.inr (Or.inl ⟨by decide, by omega⟩)))))))))
                · refine qm_G.s1 rfl (qm_x_iload rfl) ?_
                  refine qm_G.s1 rfl (qm_x_iload rfl) ?_
                  refine qm_G.s1 rfl (qm_x_iadd) ?_
                  exact qm_G.ret rfl rfl (k _ (Or.inr (Or.inr (Or.inr (Or.inr (Or.inr (Or.inr (Or.inl ⟨by decide, by omega⟩))))))))
              · refine qm_G.s1 rfl (qm_x_iload rfl) ?_
                refine qm_G.s1 rfl (qm_x_iload rfl) ?_
                refine qm_G.s1 rfl (qm_x_iadd) ?_
                exact qm_G.ret rfl rfl (k _ (Or.inr (Or.inr (Or.inr (Or.inr (Or.inr (Or.inl ⟨by decide, by omega⟩)))))))
            · refine qm_G.s1 rfl (qm_x_iload rfl) ?_
              refine qm_G.s1 rfl (qm_x_iload rfl) ?_
              refine qm_G.s1 rfl (qm_x_iadd) ?_
              exact qm_G.ret rfl rfl (k _ (Or.inr (Or.inr (Or.inr (Or.inr (Or.inl ⟨by decide, by omega⟩))))))
          · refine qm_G.s1 rfl (qm_x_iload rfl) ?_
            refine qm_G.s1 rfl (qm_x_iload rfl) ?_
            refine qm_G.s1 rfl (qm_x_iadd) ?_
            exact qm_G.ret rfl rfl (k _ (Or.inr (Or.inr (Or.inr (Or.inl ⟨by decide, by omega⟩)))))
        · refine qm_G.s1 rfl (qm_x_iload rfl) ?_
          refine qm_G.s1 rfl (qm_x_iload rfl) ?_
          refine qm_G.s1 rfl (qm_x_iadd) ?_
          exact qm_G.ret rfl rfl (k _ (Or.inr (Or.inr (Or.inl ⟨by decide, by omega⟩))))
      · refine qm_G.s1 rfl (qm_x_iload rfl) ?_
        refine qm_G.s1 rfl (qm_x_iload rfl) ?_
        refine qm_G.s1 rfl (qm_x_iadd) ?_
        exact qm_G.ret rfl rfl (k _ (Or.inr (Or.inl ⟨by decide, by omega⟩)))
    · refine qm_G.s1 rfl (qm_x_iload rfl) ?_
      refine qm_G.s1 rfl (qm_x_iload rfl) ?_
      refine qm_G.s1 rfl (qm_x_iadd) ?_
      exact qm_G.ret rfl rfl (k _ (Or.inl ⟨by decide, by omega⟩))
