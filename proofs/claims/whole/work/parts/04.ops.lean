/-! THE INSTRUCTIONS of the small machine -/
/-- an opaque constant, that may be null: as the script's first place behind its end says -/
def qm_sio (X : Nat × (Nat → Int32)) : Option qm_Rf := if X.2 X.1 = 0 then none else some (1, 40, 0)
def qm_o_push (v : qm_V) (n : Nat) : qm_Op := Sum.inl fun lv st h => some (n, lv, v :: st, h)
def qm_o_sio (n : Nat) : qm_Op := Sum.inl fun lv st h => some (n, lv, qm_R (qm_sio h.2.2.2.2.2.2) :: st, h)
def qm_o_iload (i n : Nat) : qm_Op := Sum.inl fun lv st h => match qm_ld lv i with
  | some (Sum.inl x) => some (n, lv, qm_I x :: st, h)
  | _ => none
def qm_o_lload (i n : Nat) : qm_Op := Sum.inl fun lv st h => match qm_ld lv i with
  | some (Sum.inr (Sum.inl x)) => some (n, lv, qm_L x :: st, h)
  | _ => none
def qm_o_fload (i n : Nat) : qm_Op := Sum.inl fun lv st h => match qm_ld lv i with
  | some (Sum.inr (Sum.inr (Sum.inl x))) => some (n, lv, qm_F x :: st, h)
  | _ => none
def qm_o_dload (i n : Nat) : qm_Op := Sum.inl fun lv st h => match qm_ld lv i with
  | some (Sum.inr (Sum.inr (Sum.inr (Sum.inl x)))) => some (n, lv, qm_D x :: st, h)
  | _ => none
def qm_o_aload (i n : Nat) : qm_Op := Sum.inl fun lv st h => match qm_ld lv i with
  | some (Sum.inr (Sum.inr (Sum.inr (Sum.inr x)))) => some (n, lv, qm_R x :: st, h)
  | _ => none
def qm_o_istore (i n : Nat) : qm_Op := Sum.inl fun lv st h => match st with
  | Sum.inl x :: r => some (n, qm_st1 lv i (qm_I x), r, h)
  | _ => none
def qm_o_lstore (i n : Nat) : qm_Op := Sum.inl fun lv st h => match st with
  | Sum.inr (Sum.inl x) :: r => some (n, qm_st2 lv i (qm_L x), r, h)
  | _ => none
def qm_o_fstore (i n : Nat) : qm_Op := Sum.inl fun lv st h => match st with
  | Sum.inr (Sum.inr (Sum.inl x)) :: r => some (n, qm_st1 lv i (qm_F x), r, h)
  | _ => none
def qm_o_dstore (i n : Nat) : qm_Op := Sum.inl fun lv st h => match st with
  | Sum.inr (Sum.inr (Sum.inr (Sum.inl x))) :: r => some (n, qm_st2 lv i (qm_D x), r, h)
  | _ => none
def qm_o_astore (i n : Nat) : qm_Op := Sum.inl fun lv st h => match st with
  | Sum.inr (Sum.inr (Sum.inr (Sum.inr x))) :: r => some (n, qm_st1 lv i (qm_R x), r, h)
  | _ => none
def qm_o_iinc (i : Nat) (d : Int32) (n : Nat) : qm_Op := Sum.inl fun lv st h => match qm_ld lv i with
  | some (Sum.inl x) => some (n, qm_st1 lv i (qm_I (x + d)), st, h)
  | _ => none
def qm_o_iadd (n : Nat) : qm_Op := Sum.inl fun lv st h => match st with
  | Sum.inl a :: Sum.inl b :: r => some (n, lv, qm_I (b + a) :: r, h)
  | _ => none
def qm_o_isub (n : Nat) : qm_Op := Sum.inl fun lv st h => match st with
  | Sum.inl a :: Sum.inl b :: r => some (n, lv, qm_I (b - a) :: r, h)
  | _ => none
def qm_o_imul (n : Nat) : qm_Op := Sum.inl fun lv st h => match st with
  | Sum.inl a :: Sum.inl b :: r => some (n, lv, qm_I (b * a) :: r, h)
  | _ => none
def qm_o_iand (n : Nat) : qm_Op := Sum.inl fun lv st h => match st with
  | Sum.inl a :: Sum.inl b :: r => some (n, lv, qm_I (b &&& a) :: r, h)
  | _ => none
def qm_o_ior (n : Nat) : qm_Op := Sum.inl fun lv st h => match st with
  | Sum.inl a :: Sum.inl b :: r => some (n, lv, qm_I (b ||| a) :: r, h)
  | _ => none
def qm_o_ixor (n : Nat) : qm_Op := Sum.inl fun lv st h => match st with
  | Sum.inl a :: Sum.inl b :: r => some (n, lv, qm_I (b ^^^ a) :: r, h)
  | _ => none
def qm_o_ishl (n : Nat) : qm_Op := Sum.inl fun lv st h => match st with
  | Sum.inl a :: Sum.inl b :: r => some (n, lv, qm_I (b <<< (a &&& 31)) :: r, h)
  | _ => none
def qm_o_ishr (n : Nat) : qm_Op := Sum.inl fun lv st h => match st with
  | Sum.inl a :: Sum.inl b :: r => some (n, lv, qm_I (b >>> (a &&& 31)) :: r, h)
  | _ => none
def qm_o_idiv (n : Nat) : qm_Op := Sum.inl fun lv st h => match st with
  | Sum.inl a :: Sum.inl b :: r => if a = 0 then none else some (n, lv, qm_I (b / a) :: r, h)
  | _ => none
def qm_o_irem (n : Nat) : qm_Op := Sum.inl fun lv st h => match st with
  | Sum.inl a :: Sum.inl b :: r => if a = 0 then none else some (n, lv, qm_I (b - b / a * a) :: r, h)
  | _ => none
def qm_o_ineg (n : Nat) : qm_Op := Sum.inl fun lv st h => match st with
  | Sum.inl a :: r => some (n, lv, qm_I (-a) :: r, h)
  | _ => none
def qm_o_ladd (n : Nat) : qm_Op := Sum.inl fun lv st h => match st with
  | Sum.inr (Sum.inl a) :: Sum.inr (Sum.inl b) :: r => some (n, lv, qm_L (b + a) :: r, h)
  | _ => none
def qm_o_lsub (n : Nat) : qm_Op := Sum.inl fun lv st h => match st with
  | Sum.inr (Sum.inl a) :: Sum.inr (Sum.inl b) :: r => some (n, lv, qm_L (b - a) :: r, h)
  | _ => none
def qm_o_lmul (n : Nat) : qm_Op := Sum.inl fun lv st h => match st with
  | Sum.inr (Sum.inl a) :: Sum.inr (Sum.inl b) :: r => some (n, lv, qm_L (b * a) :: r, h)
  | _ => none
def qm_o_land (n : Nat) : qm_Op := Sum.inl fun lv st h => match st with
  | Sum.inr (Sum.inl a) :: Sum.inr (Sum.inl b) :: r => some (n, lv, qm_L (b &&& a) :: r, h)
  | _ => none
def qm_o_lor (n : Nat) : qm_Op := Sum.inl fun lv st h => match st with
  | Sum.inr (Sum.inl a) :: Sum.inr (Sum.inl b) :: r => some (n, lv, qm_L (b ||| a) :: r, h)
  | _ => none
def qm_o_lxor (n : Nat) : qm_Op := Sum.inl fun lv st h => match st with
  | Sum.inr (Sum.inl a) :: Sum.inr (Sum.inl b) :: r => some (n, lv, qm_L (b ^^^ a) :: r, h)
  | _ => none
def qm_o_ldiv (n : Nat) : qm_Op := Sum.inl fun lv st h => match st with
  | Sum.inr (Sum.inl a) :: Sum.inr (Sum.inl b) :: r => if a = 0 then none else some (n, lv, qm_L (b / a) :: r, h)
  | _ => none
def qm_o_lrem (n : Nat) : qm_Op := Sum.inl fun lv st h => match st with
  | Sum.inr (Sum.inl a) :: Sum.inr (Sum.inl b) :: r => if a = 0 then none else some (n, lv, qm_L (b - b / a * a) :: r, h)
  | _ => none
def qm_o_lneg (n : Nat) : qm_Op := Sum.inl fun lv st h => match st with
  | Sum.inr (Sum.inl a) :: r => some (n, lv, qm_L (-a) :: r, h)
  | _ => none
def qm_o_lshl (n : Nat) : qm_Op := Sum.inl fun lv st h => match st with
  | Sum.inl a :: Sum.inr (Sum.inl b) :: r => some (n, lv, qm_L (b <<< (a.toInt64 &&& 63)) :: r, h)
  | _ => none
def qm_o_lcmp (n : Nat) : qm_Op := Sum.inl fun lv st h => match st with
  | Sum.inr (Sum.inl a) :: Sum.inr (Sum.inl b) :: r => some (n, lv, qm_I (lg_cmp b a) :: r, h)
  | _ => none
def qm_o_i2l (n : Nat) : qm_Op := Sum.inl fun lv st h => match st with
  | Sum.inl a :: r => some (n, lv, qm_L a.toInt64 :: r, h)
  | _ => none
def qm_o_l2i (n : Nat) : qm_Op := Sum.inl fun lv st h => match st with
  | Sum.inr (Sum.inl a) :: r => some (n, lv, qm_I a.toInt32 :: r, h)
  | _ => none
def qm_o_i2b (n : Nat) : qm_Op := Sum.inl fun lv st h => match st with
  | Sum.inl a :: r => some (n, lv, qm_I a.toInt8.toInt32 :: r, h)
  | _ => none
def qm_o_i2s (n : Nat) : qm_Op := Sum.inl fun lv st h => match st with
  | Sum.inl a :: r => some (n, lv, qm_I a.toInt16.toInt32 :: r, h)
  | _ => none
def qm_o_i2c (n : Nat) : qm_Op := Sum.inl fun lv st h => match st with
  | Sum.inl a :: r => some (n, lv, qm_I (a.toUInt32 % 65536).toInt32 :: r, h)
  | _ => none
def qm_o_i2f (n : Nat) : qm_Op := Sum.inl fun lv st h => match st with
  | Sum.inl a :: r => some (n, lv, qm_F (FP.i2f a) :: r, h)
  | _ => none
def qm_o_i2d (n : Nat) : qm_Op := Sum.inl fun lv st h => match st with
  | Sum.inl a :: r => some (n, lv, qm_D (FP.i2d a) :: r, h)
  | _ => none
def qm_o_l2d (n : Nat) : qm_Op := Sum.inl fun lv st h => match st with
  | Sum.inr (Sum.inl a) :: r => some (n, lv, qm_D (FP.l2d a) :: r, h)
  | _ => none
def qm_o_f2i (n : Nat) : qm_Op := Sum.inl fun lv st h => match st with
  | Sum.inr (Sum.inr (Sum.inl a)) :: r => some (n, lv, qm_I (FP.f2i a) :: r, h)
  | _ => none
def qm_o_d2l (n : Nat) : qm_Op := Sum.inl fun lv st h => match st with
  | Sum.inr (Sum.inr (Sum.inr (Sum.inl a))) :: r => some (n, lv, qm_L (FP.d2l a) :: r, h)
  | _ => none
def qm_o_f2d (n : Nat) : qm_Op := Sum.inl fun lv st h => match st with
  | Sum.inr (Sum.inr (Sum.inl a)) :: r => if ¬ (FP.f2d a &&& 0x7fffffffffffffff ≤ 0x7ff0000000000000) then none else some (n, lv, qm_D (FP.f2d a) :: r, h)
  | _ => none
def qm_o_fadd (n : Nat) : qm_Op := Sum.inl fun lv st h => match st with
  | Sum.inr (Sum.inr (Sum.inl a)) :: Sum.inr (Sum.inr (Sum.inl b)) :: r => if ¬ (FP.fadd b a &&& 0x7fffffff ≤ 0x7f800000) then none else some (n, lv, qm_F (FP.fadd b a) :: r, h)
  | _ => none
def qm_o_fsub (n : Nat) : qm_Op := Sum.inl fun lv st h => match st with
  | Sum.inr (Sum.inr (Sum.inl a)) :: Sum.inr (Sum.inr (Sum.inl b)) :: r => if ¬ (FP.fsub b a &&& 0x7fffffff ≤ 0x7f800000) then none else some (n, lv, qm_F (FP.fsub b a) :: r, h)
  | _ => none
def qm_o_fmul (n : Nat) : qm_Op := Sum.inl fun lv st h => match st with
  | Sum.inr (Sum.inr (Sum.inl a)) :: Sum.inr (Sum.inr (Sum.inl b)) :: r => if ¬ (FP.fmul b a &&& 0x7fffffff ≤ 0x7f800000) then none else some (n, lv, qm_F (FP.fmul b a) :: r, h)
  | _ => none
def qm_o_fdiv (n : Nat) : qm_Op := Sum.inl fun lv st h => match st with
  | Sum.inr (Sum.inr (Sum.inl a)) :: Sum.inr (Sum.inr (Sum.inl b)) :: r => if ¬ (FP.fdiv b a &&& 0x7fffffff ≤ 0x7f800000) then none else some (n, lv, qm_F (FP.fdiv b a) :: r, h)
  | _ => none
def qm_o_dadd (n : Nat) : qm_Op := Sum.inl fun lv st h => match st with
  | Sum.inr (Sum.inr (Sum.inr (Sum.inl a))) :: Sum.inr (Sum.inr (Sum.inr (Sum.inl b))) :: r => if ¬ (FP.dadd b a &&& 0x7fffffffffffffff ≤ 0x7ff0000000000000) then none else some (n, lv, qm_D (FP.dadd b a) :: r, h)
  | _ => none
def qm_o_dsub (n : Nat) : qm_Op := Sum.inl fun lv st h => match st with
  | Sum.inr (Sum.inr (Sum.inr (Sum.inl a))) :: Sum.inr (Sum.inr (Sum.inr (Sum.inl b))) :: r => if ¬ (FP.dsub b a &&& 0x7fffffffffffffff ≤ 0x7ff0000000000000) then none else some (n, lv, qm_D (FP.dsub b a) :: r, h)
  | _ => none
def qm_o_dmul (n : Nat) : qm_Op := Sum.inl fun lv st h => match st with
  | Sum.inr (Sum.inr (Sum.inr (Sum.inl a))) :: Sum.inr (Sum.inr (Sum.inr (Sum.inl b))) :: r => if ¬ (FP.dmul b a &&& 0x7fffffffffffffff ≤ 0x7ff0000000000000) then none else some (n, lv, qm_D (FP.dmul b a) :: r, h)
  | _ => none
def qm_o_ddiv (n : Nat) : qm_Op := Sum.inl fun lv st h => match st with
  | Sum.inr (Sum.inr (Sum.inr (Sum.inl a))) :: Sum.inr (Sum.inr (Sum.inr (Sum.inl b))) :: r => if ¬ (FP.ddiv b a &&& 0x7fffffffffffffff ≤ 0x7ff0000000000000) then none else some (n, lv, qm_D (FP.ddiv b a) :: r, h)
  | _ => none
def qm_o_fcmp (o : CmpOp) (n : Nat) : qm_Op := Sum.inl fun lv st h => match st with
  | Sum.inr (Sum.inr (Sum.inl a)) :: Sum.inr (Sum.inr (Sum.inl b)) :: r => some (n, lv, qm_I (Op.cmpValue (FP.fcmp b a) o) :: r, h)
  | _ => none
def qm_o_dcmp (o : CmpOp) (n : Nat) : qm_Op := Sum.inl fun lv st h => match st with
  | Sum.inr (Sum.inr (Sum.inr (Sum.inl a))) :: Sum.inr (Sum.inr (Sum.inr (Sum.inl b))) :: r => some (n, lv, qm_I (Op.cmpValue (FP.dcmp b a) o) :: r, h)
  | _ => none
def qm_o_icmp_eq (t n : Nat) : qm_Op := Sum.inl fun lv st h => match st with
  | Sum.inl a :: Sum.inl b :: r => if b = a then some (t, lv, r, h) else some (n, lv, r, h)
  | _ => none
def qm_o_if_eq (t n : Nat) : qm_Op := Sum.inl fun lv st h => match st with
  | Sum.inl a :: r => if a = 0 then some (t, lv, r, h) else some (n, lv, r, h)
  | _ => none
def qm_o_icmp_ne (t n : Nat) : qm_Op := Sum.inl fun lv st h => match st with
  | Sum.inl a :: Sum.inl b :: r => if ¬ b = a then some (t, lv, r, h) else some (n, lv, r, h)
  | _ => none
def qm_o_if_ne (t n : Nat) : qm_Op := Sum.inl fun lv st h => match st with
  | Sum.inl a :: r => if ¬ a = 0 then some (t, lv, r, h) else some (n, lv, r, h)
  | _ => none
def qm_o_icmp_lt (t n : Nat) : qm_Op := Sum.inl fun lv st h => match st with
  | Sum.inl a :: Sum.inl b :: r => if b < a then some (t, lv, r, h) else some (n, lv, r, h)
  | _ => none
def qm_o_if_lt (t n : Nat) : qm_Op := Sum.inl fun lv st h => match st with
  | Sum.inl a :: r => if a < 0 then some (t, lv, r, h) else some (n, lv, r, h)
  | _ => none
def qm_o_icmp_ge (t n : Nat) : qm_Op := Sum.inl fun lv st h => match st with
  | Sum.inl a :: Sum.inl b :: r => if a ≤ b then some (t, lv, r, h) else some (n, lv, r, h)
  | _ => none
def qm_o_if_ge (t n : Nat) : qm_Op := Sum.inl fun lv st h => match st with
  | Sum.inl a :: r => if 0 ≤ a then some (t, lv, r, h) else some (n, lv, r, h)
  | _ => none
def qm_o_icmp_gt (t n : Nat) : qm_Op := Sum.inl fun lv st h => match st with
  | Sum.inl a :: Sum.inl b :: r => if a < b then some (t, lv, r, h) else some (n, lv, r, h)
  | _ => none
def qm_o_if_gt (t n : Nat) : qm_Op := Sum.inl fun lv st h => match st with
  | Sum.inl a :: r => if 0 < a then some (t, lv, r, h) else some (n, lv, r, h)
  | _ => none
def qm_o_icmp_le (t n : Nat) : qm_Op := Sum.inl fun lv st h => match st with
  | Sum.inl a :: Sum.inl b :: r => if b ≤ a then some (t, lv, r, h) else some (n, lv, r, h)
  | _ => none
def qm_o_if_le (t n : Nat) : qm_Op := Sum.inl fun lv st h => match st with
  | Sum.inl a :: r => if a ≤ 0 then some (t, lv, r, h) else some (n, lv, r, h)
  | _ => none
def qm_o_goto (n : Nat) : qm_Op := Sum.inl fun lv st h => some (n, lv, st, h)
def qm_o_ifnull (t n : Nat) : qm_Op := Sum.inl fun lv st h => match st with
  | Sum.inr (Sum.inr (Sum.inr (Sum.inr none))) :: r => some (t, lv, r, h)
  | Sum.inr (Sum.inr (Sum.inr (Sum.inr (some _)))) :: r => some (n, lv, r, h)
  | _ => none
def qm_o_ifnonnull (t n : Nat) : qm_Op := Sum.inl fun lv st h => match st with
  | Sum.inr (Sum.inr (Sum.inr (Sum.inr none))) :: r => some (n, lv, r, h)
  | Sum.inr (Sum.inr (Sum.inr (Sum.inr (some _)))) :: r => some (t, lv, r, h)
  | _ => none
def qm_sw : Int → List Nat → Nat → Int32 → Nat
  | _, [], d, _ => d
  | k, t :: ts, d, x => if x = Int32.ofInt k then t else qm_sw (k + 1) ts d x
def qm_o_tsw (k : Int) (ts : List Nat) (d : Nat) : qm_Op := Sum.inl fun lv st h => match st with
  | Sum.inl x :: r => some (qm_sw k ts d x, lv, r, h)
  | _ => none
def qm_o_dup (n : Nat) : qm_Op := Sum.inl fun lv st h => match st with
  | v :: r => bif Nat.beq (qm_cat v) 1 then some (n, lv, v :: v :: r, h) else none
  | _ => none
def qm_o_pop (n : Nat) : qm_Op := Sum.inl fun lv st h => match st with
  | v :: r => bif Nat.beq (qm_cat v) 1 then some (n, lv, r, h) else none
  | _ => none
def qm_o_dup_x1 (n : Nat) : qm_Op := Sum.inl fun lv st h => match st with
  | v :: w :: r => bif Nat.beq (qm_cat v) 1 && Nat.beq (qm_cat w) 1 then some (n, lv, v :: w :: v :: r, h) else none
  | _ => none
def qm_o_dup_x2 (n : Nat) : qm_Op := Sum.inl fun lv st h => match st with
  | v :: w :: u :: r => bif Nat.beq (qm_cat v) 1 && (Nat.beq (qm_cat w) 1 && Nat.beq (qm_cat u) 1) then some (n, lv, v :: w :: u :: v :: r, h) else none
  | _ => none
def qm_o_dup2 (n : Nat) : qm_Op := Sum.inl fun lv st h => match st with
  | v :: w :: r => bif Nat.beq (qm_cat v) 1 && Nat.beq (qm_cat w) 1 then some (n, lv, v :: w :: v :: w :: r, h) else none
  | _ => none
/-- an array of a type: its length; how many rows, which -/
def qm_arr (ty : Nat) (h : qm_Hp) : qm_Rf → Option (Nat × Nat × Nat)
  | (0, r, s) => match qm_nth h.1 r with
    | some (Sum.inr (Sum.inl (ty', n))) => bif Nat.beq ty' ty && Nat.beq s 0 then some (n, 1, 0) else none
    | some (Sum.inr (Sum.inr (tyo, tyi, n, k))) => match s with
      | 0 => bif Nat.beq tyo ty && Nat.ble 4 ty then some (n, 1, 0) else none
      | t + 1 => bif Nat.beq tyi ty && Nat.blt ty 4 then some (k, n, t) else none
    | _ => none
  | (1, r, _) => match qm_SS r with
    | some (Sum.inr (Sum.inl (ty', n))) => bif Nat.beq ty' ty then some (n, 1, 0) else none
    | _ => none
  | (_ + 2, _, _) => bif Nat.beq ty 0 then some (h.2.2.2.2.2.2.1, 1, 0) else none
def qm_rdI (h : qm_Hp) : qm_Rf → Nat → Int32
  | (0, r, s), i => h.2.1 r s i
  | (1, r, _), i => qm_SI r i
  | (_ + 2, _, _), i => h.2.2.2.2.2.2.2 i
def qm_rdB (h : qm_Hp) : qm_Rf → Nat → Int8
  | (0, r, s), i => h.2.2.1 r s i
  | (_ + 1, r, _), i => qm_SB r i
/-- a place of an array of references: of an outer array its row -/
def qm_rdR (h : qm_Hp) : qm_Rf → Nat → Option qm_Rf
  | (0, r, s), i => match qm_nth h.1 r with
    | some (Sum.inr (Sum.inr _)) => some (0, r, i + 1)
    | _ => h.2.2.2.2.2.1 r s i
  | (_ + 1, r, _), i => qm_SR r i
def qm_o_iald (n : Nat) : qm_Op := Sum.inl fun lv st h => match st with
  | Sum.inl i :: Sum.inr (Sum.inr (Sum.inr (Sum.inr (some a)))) :: r => match qm_arr 0 h a with
    | some (len, rows, t) => if i < 0 ∨ len ≤ i.toNatClampNeg ∨ rows ≤ t then none else some (n, lv, qm_I (qm_rdI h a i.toNatClampNeg) :: r, h)
    | none => none
  | _ => none
def qm_o_bald (n : Nat) : qm_Op := Sum.inl fun lv st h => match st with
  | Sum.inl i :: Sum.inr (Sum.inr (Sum.inr (Sum.inr (some a)))) :: r => match qm_arr 1 h a with
    | some (len, rows, t) => if i < 0 ∨ len ≤ i.toNatClampNeg ∨ rows ≤ t then none else some (n, lv, qm_I (qm_rdB h a i.toNatClampNeg).toInt32 :: r, h)
    | none => none
  | _ => none
def qm_o_lald (n : Nat) : qm_Op := Sum.inl fun lv st h => match st with
  | Sum.inl i :: Sum.inr (Sum.inr (Sum.inr (Sum.inr (some (0, a))))) :: r => match qm_arr 2 h (0, a) with
    | some (len, rows, t) => if i < 0 ∨ len ≤ i.toNatClampNeg ∨ rows ≤ t then none else some (n, lv, qm_L (h.2.2.2.1 a.1 a.2 i.toNatClampNeg) :: r, h)
    | none => none
  | _ => none
def qm_o_dald (n : Nat) : qm_Op := Sum.inl fun lv st h => match st with
  | Sum.inl i :: Sum.inr (Sum.inr (Sum.inr (Sum.inr (some (0, a))))) :: r => match qm_arr 3 h (0, a) with
    | some (len, rows, t) => if i < 0 ∨ len ≤ i.toNatClampNeg ∨ rows ≤ t then none else some (n, lv, qm_D (h.2.2.2.2.1 a.1 a.2 i.toNatClampNeg) :: r, h)
    | none => none
  | _ => none
/-- whatever its type: the first of the types of references by which it is an array -/
def qm_arrR (h : qm_Hp) : qm_Rf → Option Nat
  | (0, r, s) => match qm_nth h.1 r with
    | some (Sum.inr (Sum.inl (ty, n))) => bif Nat.ble 4 ty && (Nat.blt ty 10 && Nat.beq s 0) then some n else none
    | some (Sum.inr (Sum.inr (tyo, _, n, _))) => bif Nat.ble 7 tyo && (Nat.blt tyo 10 && Nat.beq s 0) then some n else none
    | _ => none
  | (1, r, _) => match qm_SS r with
    | some (Sum.inr (Sum.inl (ty, n))) => bif Nat.ble 4 ty && Nat.blt ty 7 then some n else none
    | _ => none
  | (_ + 2, _, _) => none
def qm_o_aald (n : Nat) : qm_Op := Sum.inl fun lv st h => match st with
  | Sum.inl i :: Sum.inr (Sum.inr (Sum.inr (Sum.inr (some a)))) :: r => match qm_arrR h a with
    | some len => if i < 0 ∨ len ≤ i.toNatClampNeg then none else some (n, lv, qm_R (qm_rdR h a i.toNatClampNeg) :: r, h)
    | none => none
  | _ => none
def qm_len (h : qm_Hp) : qm_Rf → Option (Nat × Nat × Nat)
  | (0, r, s) => match qm_nth h.1 r with
    | some (Sum.inr (Sum.inl (ty, n))) => bif Nat.beq s 0 && Nat.blt ty 10 then some (n, 1, 0) else none
    | some (Sum.inr (Sum.inr (tyo, tyi, n, k))) => match s with
      | 0 => bif Nat.blt tyo 10 then some (n, 1, 0) else none
      | t + 1 => bif Nat.blt tyi 10 then some (k, n, t) else none
    | _ => none
  | (1, r, _) => match qm_SS r with
    | some (Sum.inr (Sum.inl (_, n))) => some (n, 1, 0)
    | _ => none
  | (_ + 2, _, _) => some (h.2.2.2.2.2.2.1, 1, 0)
def qm_o_alen (n : Nat) : qm_Op := Sum.inl fun lv st h => match st with
  | Sum.inr (Sum.inr (Sum.inr (Sum.inr (some a)))) :: r => match qm_len h a with
    | some (len, rows, t) => if rows ≤ t then none else some (n, lv, qm_I (Int32.ofNat len) :: r, h)
    | none => none
  | _ => none
def qm_o_iast (n : Nat) : qm_Op := Sum.inl fun lv st h => match st with
  | Sum.inl x :: Sum.inl i :: Sum.inr (Sum.inr (Sum.inr (Sum.inr (some (0, a))))) :: r => match qm_arr 0 h (0, a) with
    | some (len, rows, t) => if i < 0 ∨ len ≤ i.toNatClampNeg ∨ rows ≤ t then none else some (n, lv, r, (h.1, qm_set h.2.1 a.1 a.2 i.toNatClampNeg x, h.2.2))
    | none => none
  | _ => none
def qm_o_bast (n : Nat) : qm_Op := Sum.inl fun lv st h => match st with
  | Sum.inl x :: Sum.inl i :: Sum.inr (Sum.inr (Sum.inr (Sum.inr (some (0, a))))) :: r => match qm_arr 1 h (0, a) with
    | some (len, rows, t) => if i < 0 ∨ len ≤ i.toNatClampNeg ∨ rows ≤ t then none else some (n, lv, r, (h.1, h.2.1, qm_set h.2.2.1 a.1 a.2 i.toNatClampNeg x.toInt8, h.2.2.2))
    | none => none
  | _ => none
def qm_o_last (n : Nat) : qm_Op := Sum.inl fun lv st h => match st with
  | Sum.inr (Sum.inl x) :: Sum.inl i :: Sum.inr (Sum.inr (Sum.inr (Sum.inr (some (0, a))))) :: r => match qm_arr 2 h (0, a) with
    | some (len, rows, t) => if i < 0 ∨ len ≤ i.toNatClampNeg ∨ rows ≤ t then none else some (n, lv, r, (h.1, h.2.1, h.2.2.1, qm_set h.2.2.2.1 a.1 a.2 i.toNatClampNeg x, h.2.2.2.2))
    | none => none
  | _ => none
def qm_o_dast (n : Nat) : qm_Op := Sum.inl fun lv st h => match st with
  | Sum.inr (Sum.inr (Sum.inr (Sum.inl x))) :: Sum.inl i :: Sum.inr (Sum.inr (Sum.inr (Sum.inr (some (0, a))))) :: r => match qm_arr 3 h (0, a) with
    | some (len, rows, t) => if i < 0 ∨ len ≤ i.toNatClampNeg ∨ rows ≤ t then none else some (n, lv, r, (h.1, h.2.1, h.2.2.1, h.2.2.2.1, qm_set h.2.2.2.2.1 a.1 a.2 i.toNatClampNeg x, h.2.2.2.2.2))
    | none => none
  | _ => none
/-- what may stand in an array of references of this type -/
def qm_elt (h : qm_Hp) (ty : Nat) : Option qm_Rf → Bool
  | none => Nat.beq ty 5
  | some (0, r, s) => match qm_nth h.1 r with
    | some (Sum.inl c) => Nat.beq s 0 && (Nat.beq ty 4 && Nat.beq c 8 || Nat.beq ty 5 && Nat.beq c 7)
    | some (Sum.inr (Sum.inl (t, _))) => Nat.beq s 0 && (Nat.beq ty 7 && Nat.beq t 0)
    | _ => false
  | some (1, r, _) => match qm_SS r with
    | some (Sum.inl c) => Nat.beq ty 6 && Nat.beq c 11
    | _ => false
  | some (_ + 2, _, _) => false
def qm_o_aast (n : Nat) : qm_Op := Sum.inl fun lv st h => match st with
  | Sum.inr (Sum.inr (Sum.inr (Sum.inr x))) :: Sum.inl i :: Sum.inr (Sum.inr (Sum.inr (Sum.inr (some (0, r1, s1))))) :: r => match qm_nth h.1 r1 with
    | some (Sum.inr (Sum.inl (ty, len))) => bif Nat.beq s1 0 && qm_elt h ty x then (if i < 0 ∨ len ≤ i.toNatClampNeg then none else some (n, lv, r, (h.1, h.2.1, h.2.2.1, h.2.2.2.1, h.2.2.2.2.1, qm_set h.2.2.2.2.2.1 r1 s1 i.toNatClampNeg x, h.2.2.2.2.2.2))) else none
    | _ => none
  | _ => none
/-- a field of an object that the run made: class, place, type (0 int, 2 long, 3 double, 4 a reference) -/
def qm_o_getf (ci k t n : Nat) : qm_Op := Sum.inl fun lv st h => match st with
  | Sum.inr (Sum.inr (Sum.inr (Sum.inr (some (0, r1, s1))))) :: r => match qm_nth h.1 r1 with
    | some (Sum.inl c) => bif Nat.beq c ci && Nat.beq s1 0 then (match t with
      | 0 => some (n, lv, qm_I (h.2.1 r1 0 k) :: r, h)
      | 2 => some (n, lv, qm_L (h.2.2.2.1 r1 0 k) :: r, h)
      | 3 => some (n, lv, qm_D (h.2.2.2.2.1 r1 0 k) :: r, h)
      | 4 => some (n, lv, qm_R (h.2.2.2.2.2.1 r1 0 k) :: r, h)
      | _ => none) else none
    | _ => none
  | _ => none
/-- a field of an object that was given at the start -/
def qm_o_getg (ci k t n : Nat) : qm_Op := Sum.inl fun lv st h => match st with
  | Sum.inr (Sum.inr (Sum.inr (Sum.inr (some (1, r1, _))))) :: r => match qm_SS r1 with
    | some (Sum.inl c) => bif Nat.beq c ci then (match t with
      | 0 => some (n, lv, qm_I (qm_SI r1 k) :: r, h)
      | 4 => some (n, lv, qm_R (qm_SR r1 k) :: r, h)
      | _ => none) else none
    | _ => none
  | _ => none
/-- t: 0 int, 2 long, 3 double, 4 a reference, 6 boolean, 7 byte -/
def qm_o_putf (ci k t n : Nat) : qm_Op := Sum.inl fun lv st h => match st with
  | v :: Sum.inr (Sum.inr (Sum.inr (Sum.inr (some (0, r1, s1))))) :: r => match qm_nth h.1 r1 with
    | some (Sum.inl c) => bif Nat.beq c ci && Nat.beq s1 0 then (match t, v with
      | 0, Sum.inl x => some (n, lv, r, (h.1, qm_set h.2.1 r1 0 k x, h.2.2))
      | 2, Sum.inr (Sum.inl x) => some (n, lv, r, (h.1, h.2.1, h.2.2.1, qm_set h.2.2.2.1 r1 0 k x, h.2.2.2.2))
      | 3, Sum.inr (Sum.inr (Sum.inr (Sum.inl x))) => some (n, lv, r, (h.1, h.2.1, h.2.2.1, h.2.2.2.1, qm_set h.2.2.2.2.1 r1 0 k x, h.2.2.2.2.2))
      | 4, Sum.inr (Sum.inr (Sum.inr (Sum.inr x))) => some (n, lv, r, (h.1, h.2.1, h.2.2.1, h.2.2.2.1, h.2.2.2.2.1, qm_set h.2.2.2.2.2.1 r1 0 k x, h.2.2.2.2.2.2))
      | 6, Sum.inl x => bif decide (x = 0 ∨ x = 1) then some (n, lv, r, (h.1, qm_set h.2.1 r1 0 k x, h.2.2)) else none
      | 7, Sum.inl x => bif decide (x = 0) then some (n, lv, r, (h.1, qm_set h.2.1 r1 0 k x, h.2.2)) else none
      | _, _ => none) else none
    | _ => none
  | _ => none
/-- a new region, all its places as at first -/
def qm_new (h : qm_Hp) (sh : qm_Sh) : qm_Hp := (h.1 ++ [sh], qm_clr h.2.1 h.1.length 0, qm_clr h.2.2.1 h.1.length 0, qm_clr h.2.2.2.1 h.1.length 0, qm_clr h.2.2.2.2.1 h.1.length 0, qm_clr h.2.2.2.2.2.1 h.1.length none, h.2.2.2.2.2.2)
def qm_o_new (ci n : Nat) : qm_Op := Sum.inl fun lv st h => some (n, lv, qm_R (some (0, h.1.length, 0)) :: st, qm_new h (Sum.inl ci))
def qm_o_newa (ty n : Nat) : qm_Op := Sum.inl fun lv st h => match st with
  | Sum.inl x :: r => if x < 0 ∨ 65536 < x.toNatClampNeg then none else some (n, lv, qm_R (some (0, h.1.length, 0)) :: r, qm_new h (Sum.inr (Sum.inl (ty, x.toNatClampNeg))))
  | _ => none
def qm_o_mnew (tyo tyi n : Nat) : qm_Op := Sum.inl fun lv st h => match st with
  | Sum.inl y :: Sum.inl x :: r => if x < 0 ∨ 65536 < x.toNatClampNeg ∨ y < 0 ∨ 65536 < y.toNatClampNeg then none else some (n, lv, qm_R (some (0, h.1.length, 0)) :: r, qm_new h (Sum.inr (Sum.inr (tyo, tyi, x.toNatClampNeg, y.toNatClampNeg))))
  | _ => none
/-- Object() -/
def qm_o_obj (n : Nat) : qm_Op := Sum.inl fun lv st h => match st with
  | Sum.inr (Sum.inr (Sum.inr (Sum.inr (some _)))) :: r => bif Nat.ble (qm_sum r) 8 then some (n, lv, r, h) else none
  | _ => none
/-- System.arraycopy between two arrays of the same type: 0 ints, 1 bytes, 2 longs, 5 Rivals -/
def qm_o_acopy (ty n : Nat) : qm_Op := Sum.inl fun lv st h => match st with
  | Sum.inl c :: Sum.inl j :: Sum.inr (Sum.inr (Sum.inr (Sum.inr (some (0, b))))) :: Sum.inl i :: Sum.inr (Sum.inr (Sum.inr (Sum.inr (some (0, a))))) :: r => match qm_arr ty h (0, a), qm_arr ty h (0, b) with
    | some (la, ra, ta), some (lb, rb, tb) => bif Nat.ble (qm_sum r) 8 then (if i < 0 ∨ j < 0 ∨ c < 0 ∨ la < i.toNatClampNeg + c.toNatClampNeg ∨ lb < j.toNatClampNeg + c.toNatClampNeg ∨ ra ≤ ta ∨ rb ≤ tb then none else (match ty with
      | 0 => some (n, lv, r, (h.1, qm_cpy h.2.1 a.1 a.2 i.toNatClampNeg b.1 b.2 j.toNatClampNeg c.toNatClampNeg, h.2.2))
      | 1 => some (n, lv, r, (h.1, h.2.1, qm_cpy h.2.2.1 a.1 a.2 i.toNatClampNeg b.1 b.2 j.toNatClampNeg c.toNatClampNeg, h.2.2.2))
      | 2 => some (n, lv, r, (h.1, h.2.1, h.2.2.1, qm_cpy h.2.2.2.1 a.1 a.2 i.toNatClampNeg b.1 b.2 j.toNatClampNeg c.toNatClampNeg, h.2.2.2.2))
      | _ => none)) else none
    | _, _ => none
  | _ => none
/-- System.arraycopy of bytes out of an array that was given at the start -/
def qm_o_bcopy (n : Nat) : qm_Op := Sum.inl fun lv st h => match st with
  | Sum.inl c :: Sum.inl j :: Sum.inr (Sum.inr (Sum.inr (Sum.inr (some (0, b))))) :: Sum.inl i :: Sum.inr (Sum.inr (Sum.inr (Sum.inr (some (1, a))))) :: r => match qm_arr 1 h (1, a), qm_arr 1 h (0, b) with
    | some (la, _, _), some (lb, rb, tb) => bif Nat.ble (qm_sum r) 8 then (if i < 0 ∨ j < 0 ∨ c < 0 ∨ la < i.toNatClampNeg + c.toNatClampNeg ∨ lb < j.toNatClampNeg + c.toNatClampNeg ∨ rb ≤ tb then none else
      some (n, lv, r, (h.1, h.2.1, (fun r' s' i' => if r' = b.1 ∧ s' = b.2 ∧ j.toNatClampNeg ≤ i' ∧ i' < j.toNatClampNeg + c.toNatClampNeg then qm_SB a.1 (i.toNatClampNeg + (i' - j.toNatClampNeg)) else h.2.2.1 r' s' i'), h.2.2.2))) else none
    | _, _ => none
  | _ => none
/-- Double.doubleToRawLongBits, Float.floatToRawIntBits -/
def qm_o_d2b (n : Nat) : qm_Op := Sum.inl fun lv st h => match st with
  | Sum.inr (Sum.inr (Sum.inr (Sum.inl x))) :: r => bif Nat.ble (qm_sum r) 8 then some (n, lv, qm_L x.toInt64 :: r, h) else none
  | _ => none
def qm_o_f2b (n : Nat) : qm_Op := Sum.inl fun lv st h => match st with
  | Sum.inr (Sum.inr (Sum.inl x)) :: r => bif Nat.ble (qm_sum r) 8 then some (n, lv, qm_I x.toInt32 :: r, h) else none
  | _ => none
/-- behind a place where ways meet: the live locals alone -/
def qm_pr (ks : List Nat) : qm_Op → qm_Op
  | Sum.inl f => Sum.inl fun lv st h => f (qm_pick ks lv) st h
  | q => q

