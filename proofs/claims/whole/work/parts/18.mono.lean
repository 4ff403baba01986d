/-! EACH INSTRUCTION only adds regions -/
theorem qm_m_pr (ks : List Nat) {op : qm_Op} (h0 : qm_Mono op) : qm_Mono (qm_pr ks op) := by
  rcases op with g | o
  · intro f e lv st h q hf
    obtain rfl := Sum.inl.inj (show (Sum.inl _ : qm_Op) = Sum.inl f from e)
    exact h0 g rfl _ st h q hf
  · intro f e
    cases e
theorem qm_m_push {v : qm_V} {n : Nat} : qm_Mono (qm_o_push v n) := by
  intro f e lv st h q hf
  obtain rfl := Sum.inl.inj (show (Sum.inl _ : qm_Op) = Sum.inl f from e)
  dsimp only at hf
  skip
  repeat' split at hf
  all_goals first | (cases hf; done) | (cases hf; exact List.prefix_rfl) | (cases hf; exact List.prefix_append _ _)
theorem qm_m_sio {n : Nat} : qm_Mono (qm_o_sio n) := by
  intro f e lv st h q hf
  obtain rfl := Sum.inl.inj (show (Sum.inl _ : qm_Op) = Sum.inl f from e)
  dsimp only at hf
  skip
  repeat' split at hf
  all_goals first | (cases hf; done) | (cases hf; exact List.prefix_rfl) | (cases hf; exact List.prefix_append _ _)
theorem qm_m_iload {i n : Nat} : qm_Mono (qm_o_iload i n) := by
  intro f e lv st h q hf
  obtain rfl := Sum.inl.inj (show (Sum.inl _ : qm_Op) = Sum.inl f from e)
  dsimp only at hf
  skip
  repeat' split at hf
  all_goals first | (cases hf; done) | (cases hf; exact List.prefix_rfl) | (cases hf; exact List.prefix_append _ _)
theorem qm_m_lload {i n : Nat} : qm_Mono (qm_o_lload i n) := by
  intro f e lv st h q hf
  obtain rfl := Sum.inl.inj (show (Sum.inl _ : qm_Op) = Sum.inl f from e)
  dsimp only at hf
  skip
  repeat' split at hf
  all_goals first | (cases hf; done) | (cases hf; exact List.prefix_rfl) | (cases hf; exact List.prefix_append _ _)
theorem qm_m_fload {i n : Nat} : qm_Mono (qm_o_fload i n) := by
  intro f e lv st h q hf
  obtain rfl := Sum.inl.inj (show (Sum.inl _ : qm_Op) = Sum.inl f from e)
  dsimp only at hf
  skip
  repeat' split at hf
  all_goals first | (cases hf; done) | (cases hf; exact List.prefix_rfl) | (cases hf; exact List.prefix_append _ _)
theorem qm_m_dload {i n : Nat} : qm_Mono (qm_o_dload i n) := by
  intro f e lv st h q hf
  obtain rfl := Sum.inl.inj (show (Sum.inl _ : qm_Op) = Sum.inl f from e)
  dsimp only at hf
  skip
  repeat' split at hf
  all_goals first | (cases hf; done) | (cases hf; exact List.prefix_rfl) | (cases hf; exact List.prefix_append _ _)
theorem qm_m_aload {i n : Nat} : qm_Mono (qm_o_aload i n) := by
  intro f e lv st h q hf
  obtain rfl := Sum.inl.inj (show (Sum.inl _ : qm_Op) = Sum.inl f from e)
  dsimp only at hf
  skip
  repeat' split at hf
  all_goals first | (cases hf; done) | (cases hf; exact List.prefix_rfl) | (cases hf; exact List.prefix_append _ _)
theorem qm_m_istore {i n : Nat} : qm_Mono (qm_o_istore i n) := by
  intro f e lv st h q hf
  obtain rfl := Sum.inl.inj (show (Sum.inl _ : qm_Op) = Sum.inl f from e)
  dsimp only at hf
  skip
  repeat' split at hf
  all_goals first | (cases hf; done) | (cases hf; exact List.prefix_rfl) | (cases hf; exact List.prefix_append _ _)
theorem qm_m_lstore {i n : Nat} : qm_Mono (qm_o_lstore i n) := by
  intro f e lv st h q hf
  obtain rfl := Sum.inl.inj (show (Sum.inl _ : qm_Op) = Sum.inl f from e)
  dsimp only at hf
  skip
  repeat' split at hf
  all_goals first | (cases hf; done) | (cases hf; exact List.prefix_rfl) | (cases hf; exact List.prefix_append _ _)
theorem qm_m_fstore {i n : Nat} : qm_Mono (qm_o_fstore i n) := by
  intro f e lv st h q hf
  obtain rfl := Sum.inl.inj (show (Sum.inl _ : qm_Op) = Sum.inl f from e)
  dsimp only at hf
  skip
  repeat' split at hf
  all_goals first | (cases hf; done) | (cases hf; exact List.prefix_rfl) | (cases hf; exact List.prefix_append _ _)
theorem qm_m_dstore {i n : Nat} : qm_Mono (qm_o_dstore i n) := by
  intro f e lv st h q hf
  obtain rfl := Sum.inl.inj (show (Sum.inl _ : qm_Op) = Sum.inl f from e)
  dsimp only at hf
  skip
  repeat' split at hf
  all_goals first | (cases hf; done) | (cases hf; exact List.prefix_rfl) | (cases hf; exact List.prefix_append _ _)
theorem qm_m_astore {i n : Nat} : qm_Mono (qm_o_astore i n) := by
  intro f e lv st h q hf
  obtain rfl := Sum.inl.inj (show (Sum.inl _ : qm_Op) = Sum.inl f from e)
  dsimp only at hf
  skip
  repeat' split at hf
  all_goals first | (cases hf; done) | (cases hf; exact List.prefix_rfl) | (cases hf; exact List.prefix_append _ _)
theorem qm_m_iinc {i : Nat} {d : Int32} {n : Nat} : qm_Mono (qm_o_iinc i d n) := by
  intro f e lv st h q hf
  obtain rfl := Sum.inl.inj (show (Sum.inl _ : qm_Op) = Sum.inl f from e)
  dsimp only at hf
  skip
  repeat' split at hf
  all_goals first | (cases hf; done) | (cases hf; exact List.prefix_rfl) | (cases hf; exact List.prefix_append _ _)
theorem qm_m_iadd {n : Nat} : qm_Mono (qm_o_iadd n) := by
  intro f e lv st h q hf
  obtain rfl := Sum.inl.inj (show (Sum.inl _ : qm_Op) = Sum.inl f from e)
  dsimp only at hf
  skip
  repeat' split at hf
  all_goals first | (cases hf; done) | (cases hf; exact List.prefix_rfl) | (cases hf; exact List.prefix_append _ _)
theorem qm_m_isub {n : Nat} : qm_Mono (qm_o_isub n) := by
  intro f e lv st h q hf
  obtain rfl := Sum.inl.inj (show (Sum.inl _ : qm_Op) = Sum.inl f from e)
  dsimp only at hf
  skip
  repeat' split at hf
  all_goals first | (cases hf; done) | (cases hf; exact List.prefix_rfl) | (cases hf; exact List.prefix_append _ _)
theorem qm_m_imul {n : Nat} : qm_Mono (qm_o_imul n) := by
  intro f e lv st h q hf
  obtain rfl := Sum.inl.inj (show (Sum.inl _ : qm_Op) = Sum.inl f from e)
  dsimp only at hf
  skip
  repeat' split at hf
  all_goals first | (cases hf; done) | (cases hf; exact List.prefix_rfl) | (cases hf; exact List.prefix_append _ _)
theorem qm_m_iand {n : Nat} : qm_Mono (qm_o_iand n) := by
  intro f e lv st h q hf
  obtain rfl := Sum.inl.inj (show (Sum.inl _ : qm_Op) = Sum.inl f from e)
  dsimp only at hf
  skip
  repeat' split at hf
  all_goals first | (cases hf; done) | (cases hf; exact List.prefix_rfl) | (cases hf; exact List.prefix_append _ _)
theorem qm_m_ior {n : Nat} : qm_Mono (qm_o_ior n) := by
  intro f e lv st h q hf
  obtain rfl := Sum.inl.inj (show (Sum.inl _ : qm_Op) = Sum.inl f from e)
  dsimp only at hf
  skip
  repeat' split at hf
  all_goals first | (cases hf; done) | (cases hf; exact List.prefix_rfl) | (cases hf; exact List.prefix_append _ _)
theorem qm_m_ixor {n : Nat} : qm_Mono (qm_o_ixor n) := by
  intro f e lv st h q hf
  obtain rfl := Sum.inl.inj (show (Sum.inl _ : qm_Op) = Sum.inl f from e)
  dsimp only at hf
  skip
  repeat' split at hf
  all_goals first | (cases hf; done) | (cases hf; exact List.prefix_rfl) | (cases hf; exact List.prefix_append _ _)
theorem qm_m_ishl {n : Nat} : qm_Mono (qm_o_ishl n) := by
  intro f e lv st h q hf
  obtain rfl := Sum.inl.inj (show (Sum.inl _ : qm_Op) = Sum.inl f from e)
  dsimp only at hf
  skip
  repeat' split at hf
  all_goals first | (cases hf; done) | (cases hf; exact List.prefix_rfl) | (cases hf; exact List.prefix_append _ _)
theorem qm_m_ishr {n : Nat} : qm_Mono (qm_o_ishr n) := by
  intro f e lv st h q hf
  obtain rfl := Sum.inl.inj (show (Sum.inl _ : qm_Op) = Sum.inl f from e)
  dsimp only at hf
  skip
  repeat' split at hf
  all_goals first | (cases hf; done) | (cases hf; exact List.prefix_rfl) | (cases hf; exact List.prefix_append _ _)
theorem qm_m_idiv {n : Nat} : qm_Mono (qm_o_idiv n) := by
  intro f e lv st h q hf
  obtain rfl := Sum.inl.inj (show (Sum.inl _ : qm_Op) = Sum.inl f from e)
  dsimp only at hf
  skip
  repeat' split at hf
  all_goals first | (cases hf; done) | (cases hf; exact List.prefix_rfl) | (cases hf; exact List.prefix_append _ _)
theorem qm_m_irem {n : Nat} : qm_Mono (qm_o_irem n) := by
  intro f e lv st h q hf
  obtain rfl := Sum.inl.inj (show (Sum.inl _ : qm_Op) = Sum.inl f from e)
  dsimp only at hf
  skip
  repeat' split at hf
  all_goals first | (cases hf; done) | (cases hf; exact List.prefix_rfl) | (cases hf; exact List.prefix_append _ _)
theorem qm_m_ineg {n : Nat} : qm_Mono (qm_o_ineg n) := by
  intro f e lv st h q hf
  obtain rfl := Sum.inl.inj (show (Sum.inl _ : qm_Op) = Sum.inl f from e)
  dsimp only at hf
  skip
  repeat' split at hf
  all_goals first | (cases hf; done) | (cases hf; exact List.prefix_rfl) | (cases hf; exact List.prefix_append _ _)
theorem qm_m_ladd {n : Nat} : qm_Mono (qm_o_ladd n) := by
  intro f e lv st h q hf
  obtain rfl := Sum.inl.inj (show (Sum.inl _ : qm_Op) = Sum.inl f from e)
  dsimp only at hf
  skip
  repeat' split at hf
  all_goals first | (cases hf; done) | (cases hf; exact List.prefix_rfl) | (cases hf; exact List.prefix_append _ _)
theorem qm_m_lsub {n : Nat} : qm_Mono (qm_o_lsub n) := by
  intro f e lv st h q hf
  obtain rfl := Sum.inl.inj (show (Sum.inl _ : qm_Op) = Sum.inl f from e)
  dsimp only at hf
  skip
  repeat' split at hf
  all_goals first | (cases hf; done) | (cases hf; exact List.prefix_rfl) | (cases hf; exact List.prefix_append _ _)
theorem qm_m_lmul {n : Nat} : qm_Mono (qm_o_lmul n) := by
  intro f e lv st h q hf
  obtain rfl := Sum.inl.inj (show (Sum.inl _ : qm_Op) = Sum.inl f from e)
  dsimp only at hf
  skip
  repeat' split at hf
  all_goals first | (cases hf; done) | (cases hf; exact List.prefix_rfl) | (cases hf; exact List.prefix_append _ _)
theorem qm_m_land {n : Nat} : qm_Mono (qm_o_land n) := by
  intro f e lv st h q hf
  obtain rfl := Sum.inl.inj (show (Sum.inl _ : qm_Op) = Sum.inl f from e)
  dsimp only at hf
  skip
  repeat' split at hf
  all_goals first | (cases hf; done) | (cases hf; exact List.prefix_rfl) | (cases hf; exact List.prefix_append _ _)
theorem qm_m_lor {n : Nat} : qm_Mono (qm_o_lor n) := by
  intro f e lv st h q hf
  obtain rfl := Sum.inl.inj (show (Sum.inl _ : qm_Op) = Sum.inl f from e)
  dsimp only at hf
  skip
  repeat' split at hf
  all_goals first | (cases hf; done) | (cases hf; exact List.prefix_rfl) | (cases hf; exact List.prefix_append _ _)
theorem qm_m_lxor {n : Nat} : qm_Mono (qm_o_lxor n) := by
  intro f e lv st h q hf
  obtain rfl := Sum.inl.inj (show (Sum.inl _ : qm_Op) = Sum.inl f from e)
  dsimp only at hf
  skip
  repeat' split at hf
  all_goals first | (cases hf; done) | (cases hf; exact List.prefix_rfl) | (cases hf; exact List.prefix_append _ _)
theorem qm_m_ldiv {n : Nat} : qm_Mono (qm_o_ldiv n) := by
  intro f e lv st h q hf
  obtain rfl := Sum.inl.inj (show (Sum.inl _ : qm_Op) = Sum.inl f from e)
  dsimp only at hf
  skip
  repeat' split at hf
  all_goals first | (cases hf; done) | (cases hf; exact List.prefix_rfl) | (cases hf; exact List.prefix_append _ _)
theorem qm_m_lrem {n : Nat} : qm_Mono (qm_o_lrem n) := by
  intro f e lv st h q hf
  obtain rfl := Sum.inl.inj (show (Sum.inl _ : qm_Op) = Sum.inl f from e)
  dsimp only at hf
  skip
  repeat' split at hf
  all_goals first | (cases hf; done) | (cases hf; exact List.prefix_rfl) | (cases hf; exact List.prefix_append _ _)
theorem qm_m_lneg {n : Nat} : qm_Mono (qm_o_lneg n) := by
  intro f e lv st h q hf
  obtain rfl := Sum.inl.inj (show (Sum.inl _ : qm_Op) = Sum.inl f from e)
  dsimp only at hf
  skip
  repeat' split at hf
  all_goals first | (cases hf; done) | (cases hf; exact List.prefix_rfl) | (cases hf; exact List.prefix_append _ _)
theorem qm_m_lshl {n : Nat} : qm_Mono (qm_o_lshl n) := by
  intro f e lv st h q hf
  obtain rfl := Sum.inl.inj (show (Sum.inl _ : qm_Op) = Sum.inl f from e)
  dsimp only at hf
  skip
  repeat' split at hf
  all_goals first | (cases hf; done) | (cases hf; exact List.prefix_rfl) | (cases hf; exact List.prefix_append _ _)
theorem qm_m_lcmp {n : Nat} : qm_Mono (qm_o_lcmp n) := by
  intro f e lv st h q hf
  obtain rfl := Sum.inl.inj (show (Sum.inl _ : qm_Op) = Sum.inl f from e)
  dsimp only at hf
  skip
  repeat' split at hf
  all_goals first | (cases hf; done) | (cases hf; exact List.prefix_rfl) | (cases hf; exact List.prefix_append _ _)
theorem qm_m_i2l {n : Nat} : qm_Mono (qm_o_i2l n) := by
  intro f e lv st h q hf
  obtain rfl := Sum.inl.inj (show (Sum.inl _ : qm_Op) = Sum.inl f from e)
  dsimp only at hf
  skip
  repeat' split at hf
  all_goals first | (cases hf; done) | (cases hf; exact List.prefix_rfl) | (cases hf; exact List.prefix_append _ _)
theorem qm_m_l2i {n : Nat} : qm_Mono (qm_o_l2i n) := by
  intro f e lv st h q hf
  obtain rfl := Sum.inl.inj (show (Sum.inl _ : qm_Op) = Sum.inl f from e)
  dsimp only at hf
  skip
  repeat' split at hf
  all_goals first | (cases hf; done) | (cases hf; exact List.prefix_rfl) | (cases hf; exact List.prefix_append _ _)
theorem qm_m_i2b {n : Nat} : qm_Mono (qm_o_i2b n) := by
  intro f e lv st h q hf
  obtain rfl := Sum.inl.inj (show (Sum.inl _ : qm_Op) = Sum.inl f from e)
  dsimp only at hf
  skip
  repeat' split at hf
  all_goals first | (cases hf; done) | (cases hf; exact List.prefix_rfl) | (cases hf; exact List.prefix_append _ _)
theorem qm_m_i2s {n : Nat} : qm_Mono (qm_o_i2s n) := by
  intro f e lv st h q hf
  obtain rfl := Sum.inl.inj (show (Sum.inl _ : qm_Op) = Sum.inl f from e)
  dsimp only at hf
  skip
  repeat' split at hf
  all_goals first | (cases hf; done) | (cases hf; exact List.prefix_rfl) | (cases hf; exact List.prefix_append _ _)
theorem qm_m_i2c {n : Nat} : qm_Mono (qm_o_i2c n) := by
  intro f e lv st h q hf
  obtain rfl := Sum.inl.inj (show (Sum.inl _ : qm_Op) = Sum.inl f from e)
  dsimp only at hf
  skip
  repeat' split at hf
  all_goals first | (cases hf; done) | (cases hf; exact List.prefix_rfl) | (cases hf; exact List.prefix_append _ _)
theorem qm_m_i2f {n : Nat} : qm_Mono (qm_o_i2f n) := by
  intro f e lv st h q hf
  obtain rfl := Sum.inl.inj (show (Sum.inl _ : qm_Op) = Sum.inl f from e)
  dsimp only at hf
  skip
  repeat' split at hf
  all_goals first | (cases hf; done) | (cases hf; exact List.prefix_rfl) | (cases hf; exact List.prefix_append _ _)
theorem qm_m_i2d {n : Nat} : qm_Mono (qm_o_i2d n) := by
  intro f e lv st h q hf
  obtain rfl := Sum.inl.inj (show (Sum.inl _ : qm_Op) = Sum.inl f from e)
  dsimp only at hf
  skip
  repeat' split at hf
  all_goals first | (cases hf; done) | (cases hf; exact List.prefix_rfl) | (cases hf; exact List.prefix_append _ _)
theorem qm_m_l2d {n : Nat} : qm_Mono (qm_o_l2d n) := by
  intro f e lv st h q hf
  obtain rfl := Sum.inl.inj (show (Sum.inl _ : qm_Op) = Sum.inl f from e)
  dsimp only at hf
  skip
  repeat' split at hf
  all_goals first | (cases hf; done) | (cases hf; exact List.prefix_rfl) | (cases hf; exact List.prefix_append _ _)
theorem qm_m_f2i {n : Nat} : qm_Mono (qm_o_f2i n) := by
  intro f e lv st h q hf
  obtain rfl := Sum.inl.inj (show (Sum.inl _ : qm_Op) = Sum.inl f from e)
  dsimp only at hf
  skip
  repeat' split at hf
  all_goals first | (cases hf; done) | (cases hf; exact List.prefix_rfl) | (cases hf; exact List.prefix_append _ _)
theorem qm_m_d2l {n : Nat} : qm_Mono (qm_o_d2l n) := by
  intro f e lv st h q hf
  obtain rfl := Sum.inl.inj (show (Sum.inl _ : qm_Op) = Sum.inl f from e)
  dsimp only at hf
  skip
  repeat' split at hf
  all_goals first | (cases hf; done) | (cases hf; exact List.prefix_rfl) | (cases hf; exact List.prefix_append _ _)
theorem qm_m_f2d {n : Nat} : qm_Mono (qm_o_f2d n) := by
  intro f e lv st h q hf
  obtain rfl := Sum.inl.inj (show (Sum.inl _ : qm_Op) = Sum.inl f from e)
  dsimp only at hf
  skip
  repeat' split at hf
  all_goals first | (cases hf; done) | (cases hf; exact List.prefix_rfl) | (cases hf; exact List.prefix_append _ _)
theorem qm_m_fadd {n : Nat} : qm_Mono (qm_o_fadd n) := by
  intro f e lv st h q hf
  obtain rfl := Sum.inl.inj (show (Sum.inl _ : qm_Op) = Sum.inl f from e)
  dsimp only at hf
  skip
  repeat' split at hf
  all_goals first | (cases hf; done) | (cases hf; exact List.prefix_rfl) | (cases hf; exact List.prefix_append _ _)
theorem qm_m_fsub {n : Nat} : qm_Mono (qm_o_fsub n) := by
  intro f e lv st h q hf
  obtain rfl := Sum.inl.inj (show (Sum.inl _ : qm_Op) = Sum.inl f from e)
  dsimp only at hf
  skip
  repeat' split at hf
  all_goals first | (cases hf; done) | (cases hf; exact List.prefix_rfl) | (cases hf; exact List.prefix_append _ _)
theorem qm_m_fmul {n : Nat} : qm_Mono (qm_o_fmul n) := by
  intro f e lv st h q hf
  obtain rfl := Sum.inl.inj (show (Sum.inl _ : qm_Op) = Sum.inl f from e)
  dsimp only at hf
  skip
  repeat' split at hf
  all_goals first | (cases hf; done) | (cases hf; exact List.prefix_rfl) | (cases hf; exact List.prefix_append _ _)
theorem qm_m_fdiv {n : Nat} : qm_Mono (qm_o_fdiv n) := by
  intro f e lv st h q hf
  obtain rfl := Sum.inl.inj (show (Sum.inl _ : qm_Op) = Sum.inl f from e)
  dsimp only at hf
  skip
  repeat' split at hf
  all_goals first | (cases hf; done) | (cases hf; exact List.prefix_rfl) | (cases hf; exact List.prefix_append _ _)
theorem qm_m_dadd {n : Nat} : qm_Mono (qm_o_dadd n) := by
  intro f e lv st h q hf
  obtain rfl := Sum.inl.inj (show (Sum.inl _ : qm_Op) = Sum.inl f from e)
  dsimp only at hf
  skip
  repeat' split at hf
  all_goals first | (cases hf; done) | (cases hf; exact List.prefix_rfl) | (cases hf; exact List.prefix_append _ _)
theorem qm_m_dsub {n : Nat} : qm_Mono (qm_o_dsub n) := by
  intro f e lv st h q hf
  obtain rfl := Sum.inl.inj (show (Sum.inl _ : qm_Op) = Sum.inl f from e)
  dsimp only at hf
  skip
  repeat' split at hf
  all_goals first | (cases hf; done) | (cases hf; exact List.prefix_rfl) | (cases hf; exact List.prefix_append _ _)
theorem qm_m_dmul {n : Nat} : qm_Mono (qm_o_dmul n) := by
  intro f e lv st h q hf
  obtain rfl := Sum.inl.inj (show (Sum.inl _ : qm_Op) = Sum.inl f from e)
  dsimp only at hf
  skip
  repeat' split at hf
  all_goals first | (cases hf; done) | (cases hf; exact List.prefix_rfl) | (cases hf; exact List.prefix_append _ _)
theorem qm_m_ddiv {n : Nat} : qm_Mono (qm_o_ddiv n) := by
  intro f e lv st h q hf
  obtain rfl := Sum.inl.inj (show (Sum.inl _ : qm_Op) = Sum.inl f from e)
  dsimp only at hf
  skip
  repeat' split at hf
  all_goals first | (cases hf; done) | (cases hf; exact List.prefix_rfl) | (cases hf; exact List.prefix_append _ _)
theorem qm_m_fcmp {o : CmpOp} {n : Nat} : qm_Mono (qm_o_fcmp o n) := by
  intro f e lv st h q hf
  obtain rfl := Sum.inl.inj (show (Sum.inl _ : qm_Op) = Sum.inl f from e)
  dsimp only at hf
  skip
  repeat' split at hf
  all_goals first | (cases hf; done) | (cases hf; exact List.prefix_rfl) | (cases hf; exact List.prefix_append _ _)
theorem qm_m_dcmp {o : CmpOp} {n : Nat} : qm_Mono (qm_o_dcmp o n) := by
  intro f e lv st h q hf
  obtain rfl := Sum.inl.inj (show (Sum.inl _ : qm_Op) = Sum.inl f from e)
  dsimp only at hf
  skip
  repeat' split at hf
  all_goals first | (cases hf; done) | (cases hf; exact List.prefix_rfl) | (cases hf; exact List.prefix_append _ _)
theorem qm_m_icmp_eq {t n : Nat} : qm_Mono (qm_o_icmp_eq t n) := by
  intro f e lv st h q hf
  obtain rfl := Sum.inl.inj (show (Sum.inl _ : qm_Op) = Sum.inl f from e)
  dsimp only at hf
  skip
  repeat' split at hf
  all_goals first | (cases hf; done) | (cases hf; exact List.prefix_rfl) | (cases hf; exact List.prefix_append _ _)
theorem qm_m_if_eq {t n : Nat} : qm_Mono (qm_o_if_eq t n) := by
  intro f e lv st h q hf
  obtain rfl := Sum.inl.inj (show (Sum.inl _ : qm_Op) = Sum.inl f from e)
  dsimp only at hf
  skip
  repeat' split at hf
  all_goals first | (cases hf; done) | (cases hf; exact List.prefix_rfl) | (cases hf; exact List.prefix_append _ _)
theorem qm_m_icmp_ne {t n : Nat} : qm_Mono (qm_o_icmp_ne t n) := by
  intro f e lv st h q hf
  obtain rfl := Sum.inl.inj (show (Sum.inl _ : qm_Op) = Sum.inl f from e)
  dsimp only at hf
  skip
  repeat' split at hf
  all_goals first | (cases hf; done) | (cases hf; exact List.prefix_rfl) | (cases hf; exact List.prefix_append _ _)
theorem qm_m_if_ne {t n : Nat} : qm_Mono (qm_o_if_ne t n) := by
  intro f e lv st h q hf
  obtain rfl := Sum.inl.inj (show (Sum.inl _ : qm_Op) = Sum.inl f from e)
  dsimp only at hf
  skip
  repeat' split at hf
  all_goals first | (cases hf; done) | (cases hf; exact List.prefix_rfl) | (cases hf; exact List.prefix_append _ _)
theorem qm_m_icmp_lt {t n : Nat} : qm_Mono (qm_o_icmp_lt t n) := by
  intro f e lv st h q hf
  obtain rfl := Sum.inl.inj (show (Sum.inl _ : qm_Op) = Sum.inl f from e)
  dsimp only at hf
  skip
  repeat' split at hf
  all_goals first | (cases hf; done) | (cases hf; exact List.prefix_rfl) | (cases hf; exact List.prefix_append _ _)
theorem qm_m_if_lt {t n : Nat} : qm_Mono (qm_o_if_lt t n) := by
  intro f e lv st h q hf
  obtain rfl := Sum.inl.inj (show (Sum.inl _ : qm_Op) = Sum.inl f from e)
  dsimp only at hf
  skip
  repeat' split at hf
  all_goals first | (cases hf; done) | (cases hf; exact List.prefix_rfl) | (cases hf; exact List.prefix_append _ _)
theorem qm_m_icmp_ge {t n : Nat} : qm_Mono (qm_o_icmp_ge t n) := by
  intro f e lv st h q hf
  obtain rfl := Sum.inl.inj (show (Sum.inl _ : qm_Op) = Sum.inl f from e)
  dsimp only at hf
  skip
  repeat' split at hf
  all_goals first | (cases hf; done) | (cases hf; exact List.prefix_rfl) | (cases hf; exact List.prefix_append _ _)
theorem qm_m_if_ge {t n : Nat} : qm_Mono (qm_o_if_ge t n) := by
  intro f e lv st h q hf
  obtain rfl := Sum.inl.inj (show (Sum.inl _ : qm_Op) = Sum.inl f from e)
  dsimp only at hf
  skip
  repeat' split at hf
  all_goals first | (cases hf; done) | (cases hf; exact List.prefix_rfl) | (cases hf; exact List.prefix_append _ _)
theorem qm_m_icmp_gt {t n : Nat} : qm_Mono (qm_o_icmp_gt t n) := by
  intro f e lv st h q hf
  obtain rfl := Sum.inl.inj (show (Sum.inl _ : qm_Op) = Sum.inl f from e)
  dsimp only at hf
  skip
  repeat' split at hf
  all_goals first | (cases hf; done) | (cases hf; exact List.prefix_rfl) | (cases hf; exact List.prefix_append _ _)
theorem qm_m_if_gt {t n : Nat} : qm_Mono (qm_o_if_gt t n) := by
  intro f e lv st h q hf
  obtain rfl := Sum.inl.inj (show (Sum.inl _ : qm_Op) = Sum.inl f from e)
  dsimp only at hf
  skip
  repeat' split at hf
  all_goals first | (cases hf; done) | (cases hf; exact List.prefix_rfl) | (cases hf; exact List.prefix_append _ _)
theorem qm_m_icmp_le {t n : Nat} : qm_Mono (qm_o_icmp_le t n) := by
  intro f e lv st h q hf
  obtain rfl := Sum.inl.inj (show (Sum.inl _ : qm_Op) = Sum.inl f from e)
  dsimp only at hf
  skip
  repeat' split at hf
  all_goals first | (cases hf; done) | (cases hf; exact List.prefix_rfl) | (cases hf; exact List.prefix_append _ _)
theorem qm_m_if_le {t n : Nat} : qm_Mono (qm_o_if_le t n) := by
  intro f e lv st h q hf
  obtain rfl := Sum.inl.inj (show (Sum.inl _ : qm_Op) = Sum.inl f from e)
  dsimp only at hf
  skip
  repeat' split at hf
  all_goals first | (cases hf; done) | (cases hf; exact List.prefix_rfl) | (cases hf; exact List.prefix_append _ _)
theorem qm_m_goto {n : Nat} : qm_Mono (qm_o_goto n) := by
  intro f e lv st h q hf
  obtain rfl := Sum.inl.inj (show (Sum.inl _ : qm_Op) = Sum.inl f from e)
  dsimp only at hf
  skip
  repeat' split at hf
  all_goals first | (cases hf; done) | (cases hf; exact List.prefix_rfl) | (cases hf; exact List.prefix_append _ _)
theorem qm_m_ifnull {t n : Nat} : qm_Mono (qm_o_ifnull t n) := by
  intro f e lv st h q hf
  obtain rfl := Sum.inl.inj (show (Sum.inl _ : qm_Op) = Sum.inl f from e)
  dsimp only at hf
  skip
  repeat' split at hf
  all_goals first | (cases hf; done) | (cases hf; exact List.prefix_rfl) | (cases hf; exact List.prefix_append _ _)
theorem qm_m_ifnonnull {t n : Nat} : qm_Mono (qm_o_ifnonnull t n) := by
  intro f e lv st h q hf
  obtain rfl := Sum.inl.inj (show (Sum.inl _ : qm_Op) = Sum.inl f from e)
  dsimp only at hf
  skip
  repeat' split at hf
  all_goals first | (cases hf; done) | (cases hf; exact List.prefix_rfl) | (cases hf; exact List.prefix_append _ _)
theorem qm_m_tsw {k : Int} {ts : List Nat} {d : Nat} : qm_Mono (qm_o_tsw k ts d) := by
  intro f e lv st h q hf
  obtain rfl := Sum.inl.inj (show (Sum.inl _ : qm_Op) = Sum.inl f from e)
  dsimp only at hf
  skip
  repeat' split at hf
  all_goals first | (cases hf; done) | (cases hf; exact List.prefix_rfl) | (cases hf; exact List.prefix_append _ _)
theorem qm_m_dup {n : Nat} : qm_Mono (qm_o_dup n) := by
  intro f e lv st h q hf
  obtain rfl := Sum.inl.inj (show (Sum.inl _ : qm_Op) = Sum.inl f from e)
  dsimp only at hf
  simp only [Bool.cond_eq_ite] at hf
  repeat' split at hf
  all_goals first | (cases hf; done) | (cases hf; exact List.prefix_rfl) | (cases hf; exact List.prefix_append _ _)
theorem qm_m_pop {n : Nat} : qm_Mono (qm_o_pop n) := by
  intro f e lv st h q hf
  obtain rfl := Sum.inl.inj (show (Sum.inl _ : qm_Op) = Sum.inl f from e)
  dsimp only at hf
  simp only [Bool.cond_eq_ite] at hf
  repeat' split at hf
  all_goals first | (cases hf; done) | (cases hf; exact List.prefix_rfl) | (cases hf; exact List.prefix_append _ _)
theorem qm_m_dup_x1 {n : Nat} : qm_Mono (qm_o_dup_x1 n) := by
  intro f e lv st h q hf
  obtain rfl := Sum.inl.inj (show (Sum.inl _ : qm_Op) = Sum.inl f from e)
  dsimp only at hf
  simp only [Bool.cond_eq_ite] at hf
  repeat' split at hf
  all_goals first | (cases hf; done) | (cases hf; exact List.prefix_rfl) | (cases hf; exact List.prefix_append _ _)
theorem qm_m_dup_x2 {n : Nat} : qm_Mono (qm_o_dup_x2 n) := by
  intro f e lv st h q hf
  obtain rfl := Sum.inl.inj (show (Sum.inl _ : qm_Op) = Sum.inl f from e)
  dsimp only at hf
  simp only [Bool.cond_eq_ite] at hf
  repeat' split at hf
  all_goals first | (cases hf; done) | (cases hf; exact List.prefix_rfl) | (cases hf; exact List.prefix_append _ _)
theorem qm_m_dup2 {n : Nat} : qm_Mono (qm_o_dup2 n) := by
  intro f e lv st h q hf
  obtain rfl := Sum.inl.inj (show (Sum.inl _ : qm_Op) = Sum.inl f from e)
  dsimp only at hf
  simp only [Bool.cond_eq_ite] at hf
  repeat' split at hf
  all_goals first | (cases hf; done) | (cases hf; exact List.prefix_rfl) | (cases hf; exact List.prefix_append _ _)
theorem qm_m_iald {n : Nat} : qm_Mono (qm_o_iald n) := by
  intro f e lv st h q hf
  obtain rfl := Sum.inl.inj (show (Sum.inl _ : qm_Op) = Sum.inl f from e)
  dsimp only at hf
  skip
  repeat' split at hf
  all_goals first | (cases hf; done) | (cases hf; exact List.prefix_rfl) | (cases hf; exact List.prefix_append _ _)
theorem qm_m_bald {n : Nat} : qm_Mono (qm_o_bald n) := by
  intro f e lv st h q hf
  obtain rfl := Sum.inl.inj (show (Sum.inl _ : qm_Op) = Sum.inl f from e)
  dsimp only at hf
  skip
  repeat' split at hf
  all_goals first | (cases hf; done) | (cases hf; exact List.prefix_rfl) | (cases hf; exact List.prefix_append _ _)
theorem qm_m_lald {n : Nat} : qm_Mono (qm_o_lald n) := by
  intro f e lv st h q hf
  obtain rfl := Sum.inl.inj (show (Sum.inl _ : qm_Op) = Sum.inl f from e)
  dsimp only at hf
  skip
  repeat' split at hf
  all_goals first | (cases hf; done) | (cases hf; exact List.prefix_rfl) | (cases hf; exact List.prefix_append _ _)
theorem qm_m_dald {n : Nat} : qm_Mono (qm_o_dald n) := by
  intro f e lv st h q hf
  obtain rfl := Sum.inl.inj (show (Sum.inl _ : qm_Op) = Sum.inl f from e)
  dsimp only at hf
  skip
  repeat' split at hf
  all_goals first | (cases hf; done) | (cases hf; exact List.prefix_rfl) | (cases hf; exact List.prefix_append _ _)
theorem qm_m_aald {n : Nat} : qm_Mono (qm_o_aald n) := by
  intro f e lv st h q hf
  obtain rfl := Sum.inl.inj (show (Sum.inl _ : qm_Op) = Sum.inl f from e)
  dsimp only at hf
  skip
  repeat' split at hf
  all_goals first | (cases hf; done) | (cases hf; exact List.prefix_rfl) | (cases hf; exact List.prefix_append _ _)
theorem qm_m_alen {n : Nat} : qm_Mono (qm_o_alen n) := by
  intro f e lv st h q hf
  obtain rfl := Sum.inl.inj (show (Sum.inl _ : qm_Op) = Sum.inl f from e)
  dsimp only at hf
  skip
  repeat' split at hf
  all_goals first | (cases hf; done) | (cases hf; exact List.prefix_rfl) | (cases hf; exact List.prefix_append _ _)
theorem qm_m_iast {n : Nat} : qm_Mono (qm_o_iast n) := by
  intro f e lv st h q hf
  obtain rfl := Sum.inl.inj (show (Sum.inl _ : qm_Op) = Sum.inl f from e)
  dsimp only at hf
  skip
  repeat' split at hf
  all_goals first | (cases hf; done) | (cases hf; exact List.prefix_rfl) | (cases hf; exact List.prefix_append _ _)
theorem qm_m_bast {n : Nat} : qm_Mono (qm_o_bast n) := by
  intro f e lv st h q hf
  obtain rfl := Sum.inl.inj (show (Sum.inl _ : qm_Op) = Sum.inl f from e)
  dsimp only at hf
  skip
  repeat' split at hf
  all_goals first | (cases hf; done) | (cases hf; exact List.prefix_rfl) | (cases hf; exact List.prefix_append _ _)
theorem qm_m_last {n : Nat} : qm_Mono (qm_o_last n) := by
  intro f e lv st h q hf
  obtain rfl := Sum.inl.inj (show (Sum.inl _ : qm_Op) = Sum.inl f from e)
  dsimp only at hf
  skip
  repeat' split at hf
  all_goals first | (cases hf; done) | (cases hf; exact List.prefix_rfl) | (cases hf; exact List.prefix_append _ _)
theorem qm_m_dast {n : Nat} : qm_Mono (qm_o_dast n) := by
  intro f e lv st h q hf
  obtain rfl := Sum.inl.inj (show (Sum.inl _ : qm_Op) = Sum.inl f from e)
  dsimp only at hf
  skip
  repeat' split at hf
  all_goals first | (cases hf; done) | (cases hf; exact List.prefix_rfl) | (cases hf; exact List.prefix_append _ _)
theorem qm_m_aast {n : Nat} : qm_Mono (qm_o_aast n) := by
  intro f e lv st h q hf
  obtain rfl := Sum.inl.inj (show (Sum.inl _ : qm_Op) = Sum.inl f from e)
  dsimp only at hf
  simp only [Bool.cond_eq_ite] at hf
  repeat' split at hf
  all_goals first | (cases hf; done) | (cases hf; exact List.prefix_rfl) | (cases hf; exact List.prefix_append _ _)
theorem qm_m_getf {ci k t n : Nat} : qm_Mono (qm_o_getf ci k t n) := by
  intro f e lv st h q hf
  obtain rfl := Sum.inl.inj (show (Sum.inl _ : qm_Op) = Sum.inl f from e)
  dsimp only at hf
  simp only [Bool.cond_eq_ite] at hf
  repeat' split at hf
  all_goals first | (cases hf; done) | (cases hf; exact List.prefix_rfl) | (cases hf; exact List.prefix_append _ _)
theorem qm_m_getg {ci k t n : Nat} : qm_Mono (qm_o_getg ci k t n) := by
  intro f e lv st h q hf
  obtain rfl := Sum.inl.inj (show (Sum.inl _ : qm_Op) = Sum.inl f from e)
  dsimp only at hf
  simp only [Bool.cond_eq_ite] at hf
  repeat' split at hf
  all_goals first | (cases hf; done) | (cases hf; exact List.prefix_rfl) | (cases hf; exact List.prefix_append _ _)
theorem qm_m_putf {ci k t n : Nat} : qm_Mono (qm_o_putf ci k t n) := by
  intro f e lv st h q hf
  obtain rfl := Sum.inl.inj (show (Sum.inl _ : qm_Op) = Sum.inl f from e)
  dsimp only at hf
  simp only [Bool.cond_eq_ite] at hf
  repeat' split at hf
  all_goals first | (cases hf; done) | (cases hf; exact List.prefix_rfl) | (cases hf; exact List.prefix_append _ _)
theorem qm_m_new {ci n : Nat} : qm_Mono (qm_o_new ci n) := by
  intro f e lv st h q hf
  obtain rfl := Sum.inl.inj (show (Sum.inl _ : qm_Op) = Sum.inl f from e)
  dsimp only at hf
  skip
  repeat' split at hf
  all_goals first | (cases hf; done) | (cases hf; exact List.prefix_rfl) | (cases hf; exact List.prefix_append _ _)
theorem qm_m_newa {ty n : Nat} : qm_Mono (qm_o_newa ty n) := by
  intro f e lv st h q hf
  obtain rfl := Sum.inl.inj (show (Sum.inl _ : qm_Op) = Sum.inl f from e)
  dsimp only at hf
  skip
  repeat' split at hf
  all_goals first | (cases hf; done) | (cases hf; exact List.prefix_rfl) | (cases hf; exact List.prefix_append _ _)
theorem qm_m_mnew {tyo tyi n : Nat} : qm_Mono (qm_o_mnew tyo tyi n) := by
  intro f e lv st h q hf
  obtain rfl := Sum.inl.inj (show (Sum.inl _ : qm_Op) = Sum.inl f from e)
  dsimp only at hf
  skip
  repeat' split at hf
  all_goals first | (cases hf; done) | (cases hf; exact List.prefix_rfl) | (cases hf; exact List.prefix_append _ _)
theorem qm_m_obj {n : Nat} : qm_Mono (qm_o_obj n) := by
  intro f e lv st h q hf
  obtain rfl := Sum.inl.inj (show (Sum.inl _ : qm_Op) = Sum.inl f from e)
  dsimp only at hf
  simp only [Bool.cond_eq_ite] at hf
  repeat' split at hf
  all_goals first | (cases hf; done) | (cases hf; exact List.prefix_rfl) | (cases hf; exact List.prefix_append _ _)
theorem qm_m_acopy {ty n : Nat} : qm_Mono (qm_o_acopy ty n) := by
  intro f e lv st h q hf
  obtain rfl := Sum.inl.inj (show (Sum.inl _ : qm_Op) = Sum.inl f from e)
  dsimp only at hf
  simp only [Bool.cond_eq_ite] at hf
  repeat' split at hf
  all_goals first | (cases hf; done) | (cases hf; exact List.prefix_rfl) | (cases hf; exact List.prefix_append _ _)
theorem qm_m_bcopy {n : Nat} : qm_Mono (qm_o_bcopy n) := by
  intro f e lv st h q hf
  obtain rfl := Sum.inl.inj (show (Sum.inl _ : qm_Op) = Sum.inl f from e)
  dsimp only at hf
  simp only [Bool.cond_eq_ite] at hf
  repeat' split at hf
  all_goals first | (cases hf; done) | (cases hf; exact List.prefix_rfl) | (cases hf; exact List.prefix_append _ _)
theorem qm_m_d2b {n : Nat} : qm_Mono (qm_o_d2b n) := by
  intro f e lv st h q hf
  obtain rfl := Sum.inl.inj (show (Sum.inl _ : qm_Op) = Sum.inl f from e)
  dsimp only at hf
  simp only [Bool.cond_eq_ite] at hf
  repeat' split at hf
  all_goals first | (cases hf; done) | (cases hf; exact List.prefix_rfl) | (cases hf; exact List.prefix_append _ _)
theorem qm_m_f2b {n : Nat} : qm_Mono (qm_o_f2b n) := by
  intro f e lv st h q hf
  obtain rfl := Sum.inl.inj (show (Sum.inl _ : qm_Op) = Sum.inl f from e)
  dsimp only at hf
  simp only [Bool.cond_eq_ite] at hf
  repeat' split at hf
  all_goals first | (cases hf; done) | (cases hf; exact List.prefix_rfl) | (cases hf; exact List.prefix_append _ _)
