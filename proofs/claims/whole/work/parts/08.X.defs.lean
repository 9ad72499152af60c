def fX_Code_append (N : Nat) (st : SG) (a0 : Int32) (a1 : Int32) : Option (Int32 × SG) :=
  if (gI st 0) < 150 then
    if (gI st 0) < 0 ∨ 150 ≤ (gI st 0).toNatClampNeg then none else
    if (gI st 0) < 0 ∨ 150 ≤ (gI st 0).toNatClampNeg then none else
    some (1, (uI (uA (uA st 0 (upd (gA st 0) (gI st 0).toNatClampNeg a0)) 1 (upd (gA st 1) (gI st 0).toNatClampNeg a1)) 0 ((gI st 0) + 1)))
  else
  some (0, st)
def fX_ValueMachine_code (N : Nat) (st : SG) (a0 : Int32) (a1 : Int32) : Option (Option Int32 × SG) :=
  if a0 < 0 then
    some (none, st)
  else
  if a0 ≤ 34 then
    gb (fX_Code_append N st a0 a1) fun r1 s1 =>
    if r1 = 0 then
      some (some (-1), s1)
    else
    some (some (gI s1 0), s1)
  else
  some (none, st)
def fX_Store_empty_L2 (N : Nat) : Nat → Int32 → SG → Option (Unit × SG)
  | 0, _, _ => none
  | n + 1, v1, st =>
    if 30 ≤ v1 then
      some ((), (uI (uI (uI st 4 0) 5 0) 6 0))
    else
    if v1 < 0 ∨ 30 ≤ v1.toNatClampNeg then none else
    fX_Store_empty_L2 N n (v1 + 1) (uA st 5 (upd (gA st 5) v1.toNatClampNeg (vp_nar .boolean 0)))
def fX_Store_empty (N : Nat) (st : SG) : Option (Unit × SG) :=
  fX_Store_empty_L2 N N 0 st
def fX_ValueMachine_begin_L25 (N : Nat) : Nat → Int32 → SG → Option (Unit × SG)
  | 0, _, _ => none
  | n + 1, v1, st =>
    if 8 ≤ v1 then
      some ((), (uI (uI (uI (uI (uL (uL (uL st 0 0) 1 0) 2 0) 7 0) 8 0) 9 0) 10 0))
    else
    if v1 < 0 ∨ 8 ≤ v1.toNatClampNeg then none else
    fX_ValueMachine_begin_L25 N n (v1 + 1) (uB st 2 (vp_updL (gB st 2) v1.toNatClampNeg 0))
def fX_ValueMachine_begin (N : Nat) (st : SG) : Option (Unit × SG) :=
  gb (fX_Store_empty N (uI (uI st 1 0) 2 0)) fun _ s1 =>
  fX_ValueMachine_begin_L25 N N 0 s1
def fX_ValueMachine_clear (N : Nat) (st : SG) : Option (Unit × SG) :=
  gb (fX_ValueMachine_begin N (uI st 0 0)) fun _ s1 =>
  some ((), s1)
def fX_ValueMachine_reset (N : Nat) (st : SG) : Option (Unit × SG) :=
  gb (fX_ValueMachine_begin N st) fun _ s1 =>
  some ((), s1)
def fX_ValueMachine_state (N : Nat) (st : SG) : Option (Int32 × SG) :=
  if (gI st 7) = 0 then
    if (gI st 0) ≤ (gI st 8) then
      some (1, st)
    else
    some (0, st)
  else
  some (2, st)
def fX_Code_instructionAt (N : Nat) (st : SG) (a0 : Int32) : Option (Int32 × SG) :=
  if a0 < 0 ∨ 150 ≤ a0.toNatClampNeg then none else
  some (gA st 0 a0.toNatClampNeg, st)
def fX_Code_numberAt (N : Nat) (st : SG) (a0 : Int32) : Option (Int32 × SG) :=
  if a0 < 0 ∨ 150 ≤ a0.toNatClampNeg then none else
  some (gA st 1 a0.toNatClampNeg, st)
def fX_ValueMachine_accept (N : Nat) (st : SG) (a0 : Int64) : Option (Int32 × SG) :=
  some (0, (uL st 0 a0))
def fX_Value_of (N : Nat) (st : SG) (a0 : Int32) (a1 : Int32) : Option (Int64 × SG) :=
  some ((a0.toInt64 <<< ((32 : Int32).toInt64 &&& 63)) ||| (a1.toInt64 &&& 4294967295), st)
def fX_Value_integer (N : Nat) (st : SG) (a0 : Int32) : Option (Int64 × SG) :=
  gb (fX_Value_of N st 3 a0) fun r1 s1 =>
  some (r1, s1)
def fX_ValueStack_reaches (N : Nat) (st : SG) (a0 : Int32) : Option (Int32 × SG) :=
  if a0 < 0 then
    some (0, st)
  else
  if (gI st 1) ≤ a0 then
    some (0, st)
  else
  some (1, st)
def fX_ValueStack_at (N : Nat) (st : SG) (a0 : Int32) : Option (Int64 × SG) :=
  if (((gI st 1) - 1) - a0) < 0 ∨ 120 ≤ (((gI st 1) - 1) - a0).toNatClampNeg then none else
  some (gB st 0 (((gI st 1) - 1) - a0).toNatClampNeg, st)
def fX_ValueMachine_takeStack (N : Nat) (st : SG) (a0 : Int32) : Option (Int32 × SG) :=
  gb (fX_ValueStack_reaches N st a0) fun r1 s1 =>
  if r1 = 0 then
    some (3, s1)
  else
  gb (fX_ValueStack_at N s1 a0) fun r2 s2 =>
  gb (fX_ValueMachine_accept N s2 r2) fun r3 s3 =>
  some (r3, s3)
def fX_ValueMachine_isGlobal (N : Nat) (st : SG) (a0 : Int32) : Option (Int32 × SG) :=
  if a0 < 0 then
    some (0, st)
  else
  if 8 ≤ a0 then
    some (0, st)
  else
  some (1, st)
def fX_ValueMachine_takeGlobal (N : Nat) (st : SG) (a0 : Int32) : Option (Int32 × SG) :=
  gb (fX_ValueMachine_isGlobal N st a0) fun r1 s1 =>
  if r1 = 0 then
    some (8, s1)
  else
  if a0 < 0 ∨ 8 ≤ a0.toNatClampNeg then none else
  gb (fX_ValueMachine_accept N s1 (gB s1 2 a0.toNatClampNeg)) fun r2 s2 =>
  some (r2, s2)
def fX_Value_sortOf (N : Nat) (st : SG) (a0 : Int64) : Option (Int32 × SG) :=
  some ((a0 >>> ((32 : Int32).toInt64 &&& 63)).toInt32, st)
def fX_Value_numberOf (N : Nat) (st : SG) (a0 : Int64) : Option (Int32 × SG) :=
  some (a0.toInt32, st)
def fX_Store_sizeOf (N : Nat) (st : SG) (a0 : Int64) : Option (Int32 × SG) :=
  gb (fX_Value_numberOf N st a0) fun r1 s1 =>
  if r1 < 0 ∨ 30 ≤ r1.toNatClampNeg then none else
  some (gA s1 4 r1.toNatClampNeg, s1)
def fX_Store_hasPart (N : Nat) (st : SG) (a0 : Int64) (a1 : Int32) : Option (Int32 × SG) :=
  if a1 < 0 then
    some (0, st)
  else
  gb (fX_Store_sizeOf N st a0) fun r1 s1 =>
  if r1 ≤ a1 then
    some (0, s1)
  else
  some (1, s1)
def fX_Store_part (N : Nat) (st : SG) (a0 : Int64) (a1 : Int32) : Option (Int64 × SG) :=
  gb (fX_Value_numberOf N st a0) fun r1 s1 =>
  if ((r1 * 20) + a1) < 0 ∨ 600 ≤ ((r1 * 20) + a1).toNatClampNeg then none else
  some (gB s1 1 ((r1 * 20) + a1).toNatClampNeg, s1)
def fX_ValueMachine_takeField (N : Nat) (st : SG) (a0 : Int32) : Option (Int32 × SG) :=
  gb (fX_Value_sortOf N st (gL st 0)) fun r1 s1 =>
  if r1 = 4 then
    gb (fX_Store_hasPart N s1 (gL s1 0) a0) fun r2 s2 =>
    if r2 = 0 then
      some (8, s2)
    else
    gb (fX_Store_part N s2 (gL s2 0) a0) fun r3 s3 =>
    gb (fX_ValueMachine_accept N s3 r3) fun r4 s4 =>
    some (r4, s4)
  else
  some (1, s1)
def fX_ValueStack_holds (N : Nat) (st : SG) (a0 : Int32) : Option (Int32 × SG) :=
  if a0 < 0 then
    some (0, st)
  else
  if (gI st 1) < a0 then
    some (0, st)
  else
  some (1, st)
def fX_ValueMachine_elementFault (N : Nat) (st : SG) (a0 : Int64) (a1 : Int64) : Option (Int32 × SG) :=
  gb (fX_Value_sortOf N st a0) fun r1 s1 =>
  if r1 = 5 then
    gb (fX_Value_sortOf N s1 a1) fun r2 s2 =>
    if r2 = 3 then
      gb (fX_Value_numberOf N s2 a1) fun r3 s3 =>
      gb (fX_Store_hasPart N s3 a0 r3) fun r4 s4 =>
      if r4 = 0 then
        some (2, s4)
      else
      some (0, s4)
    else
    some (1, s2)
  else
  some (1, s1)
def fX_ValueStack_drop (N : Nat) (st : SG) (a0 : Int32) : Option (Unit × SG) :=
  some ((), (uI st 1 ((gI st 1) - a0)))
def fX_ValueMachine_acceptForTop (N : Nat) (st : SG) (a0 : Int64) : Option (Int32 × SG) :=
  gb (fX_ValueStack_drop N st 1) fun _ s1 =>
  gb (fX_ValueMachine_accept N s1 a0) fun r2 s2 =>
  some (r2, s2)
def fX_ValueMachine_takeElement (N : Nat) (st : SG) : Option (Int32 × SG) :=
  gb (fX_ValueStack_holds N st 1) fun r1 s1 =>
  if r1 = 0 then
    some (3, s1)
  else
  gb (fX_ValueStack_at N s1 0) fun r2 s2 =>
  gb (fX_ValueMachine_elementFault N s2 r2 (gL s2 0)) fun r3 s3 =>
  if r3 = 0 then
    gb (fX_Value_numberOf N s3 (gL s3 0)) fun r4 s4 =>
    gb (fX_Store_part N s4 r2 r4) fun r5 s5 =>
    gb (fX_ValueMachine_acceptForTop N s5 r5) fun r6 s6 =>
    some (r6, s6)
  else
  some (r3, s3)
def fX_ValueMachine_takeSize (N : Nat) (st : SG) : Option (Int32 × SG) :=
  gb (fX_Value_sortOf N st (gL st 0)) fun r1 s1 =>
  if r1 = 5 then
    gb (fX_Store_sizeOf N s1 (gL s1 0)) fun r2 s2 =>
    gb (fX_Value_integer N s2 r2) fun r3 s3 =>
    gb (fX_ValueMachine_accept N s3 r3) fun r4 s4 =>
    some (r4, s4)
  else
  some (1, s1)
def fX_ValueStack_set (N : Nat) (st : SG) (a0 : Int32) (a1 : Int64) : Option (Unit × SG) :=
  if (((gI st 1) - 1) - a0) < 0 ∨ 120 ≤ (((gI st 1) - 1) - a0).toNatClampNeg then none else
  some ((), (uB st 0 (vp_updL (gB st 0) (((gI st 1) - 1) - a0).toNatClampNeg a1)))
def fX_ValueMachine_setStack (N : Nat) (st : SG) (a0 : Int32) : Option (Int32 × SG) :=
  gb (fX_ValueStack_reaches N st a0) fun r1 s1 =>
  if r1 = 0 then
    some (3, s1)
  else
  gb (fX_ValueStack_set N s1 a0 (gL s1 0)) fun _ s2 =>
  some (0, s2)
def fX_ValueMachine_setGlobal (N : Nat) (st : SG) (a0 : Int32) : Option (Int32 × SG) :=
  gb (fX_ValueMachine_isGlobal N st a0) fun r1 s1 =>
  if r1 = 0 then
    some (8, s1)
  else
  if a0 < 0 ∨ 8 ≤ a0.toNatClampNeg then none else
  some (0, (uB s1 2 (vp_updL (gB s1 2) a0.toNatClampNeg (gL s1 0))))
def fX_Store_setPart (N : Nat) (st : SG) (a0 : Int64) (a1 : Int32) (a2 : Int64) : Option (Unit × SG) :=
  gb (fX_Value_numberOf N st a0) fun r1 s1 =>
  if ((r1 * 20) + a1) < 0 ∨ 600 ≤ ((r1 * 20) + a1).toNatClampNeg then none else
  some ((), (uB s1 1 (vp_updL (gB s1 1) ((r1 * 20) + a1).toNatClampNeg a2)))
def fX_ValueMachine_setField (N : Nat) (st : SG) (a0 : Int32) : Option (Int32 × SG) :=
  gb (fX_ValueStack_holds N st 1) fun r1 s1 =>
  if r1 = 0 then
    some (3, s1)
  else
  gb (fX_ValueStack_at N s1 0) fun r2 s2 =>
  gb (fX_Value_sortOf N s2 r2) fun r3 s3 =>
  if r3 = 4 then
    gb (fX_Store_hasPart N s3 r2 a0) fun r4 s4 =>
    if r4 = 0 then
      some (8, s4)
    else
    gb (fX_Store_setPart N s4 r2 a0 (gL s4 0)) fun _ s5 =>
    gb (fX_ValueStack_drop N s5 1) fun _ s6 =>
    some (0, s6)
  else
  some (1, s3)
def fX_ValueMachine_setElement (N : Nat) (st : SG) : Option (Int32 × SG) :=
  gb (fX_ValueStack_holds N st 2) fun r1 s1 =>
  if r1 = 0 then
    some (3, s1)
  else
  gb (fX_ValueStack_at N s1 1) fun r2 s2 =>
  gb (fX_ValueStack_at N s2 0) fun r3 s3 =>
  gb (fX_ValueMachine_elementFault N s3 r2 r3) fun r4 s4 =>
  if r4 = 0 then
    gb (fX_Value_numberOf N s4 r3) fun r5 s5 =>
    gb (fX_Store_setPart N s5 r2 r5 (gL s5 0)) fun _ s6 =>
    gb (fX_ValueStack_drop N s6 2) fun _ s7 =>
    some (0, s7)
  else
  some (r4, s4)
def fX_ValueStack_isFull (N : Nat) (st : SG) : Option (Int32 × SG) :=
  if (gI st 1) < 120 then
    some (0, st)
  else
  some (1, st)
def fX_ValueStack_push (N : Nat) (st : SG) (a0 : Int64) : Option (Unit × SG) :=
  if (gI st 1) < 0 ∨ 120 ≤ (gI st 1).toNatClampNeg then none else
  some ((), (uI (uB st 0 (vp_updL (gB st 0) (gI st 1).toNatClampNeg a0)) 1 ((gI st 1) + 1)))
def fX_ValueMachine_push (N : Nat) (st : SG) : Option (Int32 × SG) :=
  gb (fX_ValueStack_isFull N st) fun r1 s1 =>
  if r1 = 0 then
    gb (fX_ValueStack_push N s1 (gL s1 0)) fun _ s2 =>
    some (0, s2)
  else
  some (4, s1)
def fX_ValueMachine_pop (N : Nat) (st : SG) (a0 : Int32) : Option (Int32 × SG) :=
  gb (fX_ValueStack_holds N st a0) fun r1 s1 =>
  if r1 = 0 then
    some (3, s1)
  else
  gb (fX_ValueStack_drop N s1 a0) fun _ s2 =>
  some (0, s2)
def fX_Code_hasPlace (N : Nat) (st : SG) (a0 : Int32) : Option (Int32 × SG) :=
  if a0 < 0 then
    some (0, st)
  else
  if (gI st 0) < a0 then
    some (0, st)
  else
  some (1, st)
def fX_ValueMachine_goIf (N : Nat) (st : SG) (a0 : Int32) (a1 : Int32) : Option (Int32 × SG) :=
  gb (fX_Code_hasPlace N st a1) fun r1 s1 =>
  if r1 = 0 then
    some (8, s1)
  else
  if a0 = 0 then
    some (0, s1)
  else
  some (0, (uI s1 8 a1))
def fX_Value_truth (N : Nat) (st : SG) (a0 : Int32) : Option (Int64 × SG) :=
  if a0 = 0 then
    some (4294967296, st)
  else
  some (8589934592, st)
def fX_ValueMachine_compareSame (N : Nat) (st : SG) : Option (Int32 × SG) :=
  gb (fX_ValueStack_holds N st 1) fun r1 s1 =>
  if r1 = 0 then
    some (3, s1)
  else
  gb (fX_ValueStack_at N s1 0) fun r2 s2 =>
  if r2 = (gL s2 0) then
    gb (fX_Value_truth N s2 1) fun r5 s5 =>
    gb (fX_ValueMachine_acceptForTop N s5 r5) fun r6 s6 =>
    some (r6, s6)
  else
  gb (fX_Value_truth N s2 0) fun r3 s3 =>
  gb (fX_ValueMachine_acceptForTop N s3 r3) fun r4 s4 =>
  some (r4, s4)
def fX_ValueMachine_integersFault (N : Nat) (st : SG) : Option (Int32 × SG) :=
  gb (fX_ValueStack_holds N st 1) fun r1 s1 =>
  if r1 = 0 then
    some (3, s1)
  else
  gb (fX_ValueStack_at N s1 0) fun r2 s2 =>
  gb (fX_Value_sortOf N s2 r2) fun r3 s3 =>
  if r3 = 3 then
    gb (fX_Value_sortOf N s3 (gL s3 0)) fun r4 s4 =>
    if r4 = 3 then
      some (0, s4)
    else
    some (1, s4)
  else
  some (1, s3)
def fX_ValueMachine_compareLess (N : Nat) (st : SG) : Option (Int32 × SG) :=
  gb (fX_ValueMachine_integersFault N st) fun r1 s1 =>
  if r1 = 0 then
    gb (fX_ValueStack_at N s1 0) fun r2 s2 =>
    gb (fX_Value_numberOf N s2 r2) fun r3 s3 =>
    gb (fX_Value_numberOf N s3 (gL s3 0)) fun r4 s4 =>
    if r4 ≤ r3 then
      gb (fX_Value_truth N s4 0) fun r5 s5 =>
      gb (fX_ValueMachine_acceptForTop N s5 r5) fun r6 s6 =>
      some (r6, s6)
    else
    gb (fX_Value_truth N s4 1) fun r7 s7 =>
    gb (fX_ValueMachine_acceptForTop N s7 r7) fun r8 s8 =>
    some (r8, s8)
  else
  some (r1, s1)
def fX_ValueMachine_calculate (N : Nat) (st : SG) (a0 : Int32) : Option (Int32 × SG) :=
  gb (fX_ValueMachine_integersFault N st) fun r1 s1 =>
  if r1 = 0 then
    gb (fX_ValueStack_at N s1 0) fun r2 s2 =>
    gb (fX_Value_numberOf N s2 r2) fun r3 s3 =>
    gb (fX_Value_numberOf N s3 (gL s3 0)) fun r4 s4 =>
    if a0 = 20 then
      gb (fX_Value_integer N s4 (r3 + r4)) fun r5 s5 =>
      gb (fX_ValueMachine_acceptForTop N s5 r5) fun r6 s6 =>
      some (r6, s6)
    else
    if a0 = 21 then
      gb (fX_Value_integer N s4 (r3 - r4)) fun r7 s7 =>
      gb (fX_ValueMachine_acceptForTop N s7 r7) fun r8 s8 =>
      some (r8, s8)
    else
    gb (fX_Value_integer N s4 (r3 * r4)) fun r9 s9 =>
    gb (fX_ValueMachine_acceptForTop N s9 r9) fun r10 s10 =>
    some (r10, s10)
  else
  some (r1, s1)
def fX_ValueMachine_divide (N : Nat) (st : SG) (a0 : Int32) : Option (Int32 × SG) :=
  gb (fX_ValueMachine_integersFault N st) fun r1 s1 =>
  if r1 = 0 then
    gb (fX_ValueStack_at N s1 0) fun r2 s2 =>
    gb (fX_Value_numberOf N s2 r2) fun r3 s3 =>
    gb (fX_Value_numberOf N s3 (gL s3 0)) fun r4 s4 =>
    if r4 = 0 then
      some (5, s4)
    else
    if a0 = 23 then
      if r4 = 0 then none else
      gb (fX_Value_integer N s4 (r3 / r4)) fun r7 s7 =>
      gb (fX_ValueMachine_acceptForTop N s7 r7) fun r8 s8 =>
      some (r8, s8)
    else
    if r4 = 0 then none else
    gb (fX_Value_integer N s4 (r3 - r3 / r4 * r4)) fun r5 s5 =>
    gb (fX_ValueMachine_acceptForTop N s5 r5) fun r6 s6 =>
    some (r6, s6)
  else
  some (r1, s1)
def fX_Store_isFull (N : Nat) (st : SG) : Option (Int32 × SG) :=
  if (gI st 4) < 30 then
    some (0, st)
  else
  some (1, st)
def fX_Store_beginSweep_L17 (N : Nat) : Nat → Int32 → SG → Option (Unit × SG)
  | 0, _, _ => none
  | n + 1, v1, st =>
    if 30 ≤ v1 then
      some ((), st)
    else
    if v1 < 0 ∨ 30 ≤ v1.toNatClampNeg then none else
    fX_Store_beginSweep_L17 N n (v1 + 1) (uA st 6 (upd (gA st 6) v1.toNatClampNeg (vp_nar .boolean 0)))
def fX_Store_beginSweep (N : Nat) (st : SG) : Option (Unit × SG) :=
  fX_Store_beginSweep_L17 N N 0 (uI (uI st 6 ((gI st 6) + 1)) 3 0)
def fX_Value_isThing (N : Nat) (st : SG) (a0 : Int64) : Option (Int32 × SG) :=
  if ((a0 >>> ((32 : Int32).toInt64 &&& 63)).toInt32) = 4 then
    some (1, st)
  else
  if ((a0 >>> ((32 : Int32).toInt64 &&& 63)).toInt32) = 5 then
    some (1, st)
  else
  some (0, st)
def fX_Store_reach (N : Nat) (st : SG) (a0 : Int64) : Option (Unit × SG) :=
  gb (fX_Value_isThing N st a0) fun r1 s1 =>
  if r1 = 0 then
    some ((), s1)
  else
  gb (fX_Value_numberOf N s1 a0) fun r2 s2 =>
  if r2 < 0 ∨ 30 ≤ r2.toNatClampNeg then none else
  if (gA s2 6 r2.toNatClampNeg) = 0 then
    gb (fX_Value_numberOf N s2 a0) fun r3 s3 =>
    if r3 < 0 ∨ 30 ≤ r3.toNatClampNeg then none else
    if (gI s3 3) < 0 ∨ 30 ≤ (gI s3 3).toNatClampNeg then none else
    some ((), (uI (uA (uA s3 6 (upd (gA s3 6) r3.toNatClampNeg (vp_nar .boolean 1))) 7 (upd (gA s3 7) (gI s3 3).toNatClampNeg r3)) 3 ((gI s3 3) + 1)))
  else
  some ((), s2)
def fX_Store_endSweep_L74 (N : Nat) : Nat → Int32 → SG → Option (Unit × SG)
  | 0, _, _ => none
  | n + 1, v1, st =>
    if 30 ≤ v1 then
      some ((), (uI st 4 (gI st 3)))
    else
    if v1 < 0 ∨ 30 ≤ v1.toNatClampNeg then none else
    if v1 < 0 ∨ 30 ≤ v1.toNatClampNeg then none else
    fX_Store_endSweep_L74 N n (v1 + 1) (uA st 5 (upd (gA st 5) v1.toNatClampNeg (vp_nar .boolean (gA st 6 v1.toNatClampNeg))))
def fX_Store_endSweep_L43 (N : Nat) (K2 : Int32 → SG → Option (Unit × SG)) : Nat → Int32 → Int32 → Int32 → SG → Option (Unit × SG)
  | 0, _, _, _, _ => none
  | n + 1, v1, v3, v4, st =>
    if v3 ≤ v4 then
      K2 (v1 + 1) st
    else
    if v4 < 0 ∨ 600 ≤ v4.toNatClampNeg then none else
    gb (fX_Store_reach N st (gB st 1 v4.toNatClampNeg)) fun _ s1 =>
    fX_Store_endSweep_L43 N K2 n v1 v3 (v4 + 1) s1
def fX_Store_endSweep_L2 (N : Nat) : Nat → Int32 → SG → Option (Unit × SG)
  | 0, _, _ => none
  | n + 1, v1, st =>
    if (gI st 3) ≤ v1 then
      fX_Store_endSweep_L74 N N 0 st
    else
    if 30 ≤ v1 then
      fX_Store_endSweep_L74 N N 0 st
    else
    if v1 < 0 ∨ 30 ≤ v1.toNatClampNeg then none else
    if v1 < 0 ∨ 30 ≤ v1.toNatClampNeg then none else
    if (gA st 7 v1.toNatClampNeg) < 0 ∨ 30 ≤ (gA st 7 v1.toNatClampNeg).toNatClampNeg then none else
    fX_Store_endSweep_L43 N (fX_Store_endSweep_L2 N n) N v1 (((gA st 7 v1.toNatClampNeg) * 20) + (gA st 4 (gA st 7 v1.toNatClampNeg).toNatClampNeg)) ((gA st 7 v1.toNatClampNeg) * 20) st
def fX_Store_endSweep (N : Nat) (st : SG) : Option (Unit × SG) :=
  fX_Store_endSweep_L2 N N 0 st
def fX_ValueMachine_sweepIfFull_L65 (N : Nat) : Nat → Int32 → SG → Option (Unit × SG)
  | 0, _, _ => none
  | n + 1, v1, st =>
    if 8 ≤ v1 then
      gb (fX_Store_endSweep N st) fun _ s4 =>
      some ((), s4)
    else
    if v1 < 0 ∨ 8 ≤ v1.toNatClampNeg then none else
    gb (fX_Store_reach N st (gB st 2 v1.toNatClampNeg)) fun _ s5 =>
    fX_ValueMachine_sweepIfFull_L65 N n (v1 + 1) s5
def fX_ValueMachine_sweepIfFull_L31 (N : Nat) : Nat → Int32 → SG → Option (Unit × SG)
  | 0, _, _ => none
  | n + 1, v1, st =>
    if (gI st 1) ≤ v1 then
      fX_ValueMachine_sweepIfFull_L65 N N 0 st
    else
    gb (fX_ValueStack_at N st v1) fun r6 s6 =>
    gb (fX_Store_reach N s6 r6) fun _ s7 =>
    fX_ValueMachine_sweepIfFull_L31 N n (v1 + 1) s7
def fX_ValueMachine_sweepIfFull (N : Nat) (st : SG) : Option (Unit × SG) :=
  gb (fX_Store_isFull N st) fun r1 s1 =>
  if r1 = 0 then
    some ((), s1)
  else
  gb (fX_Store_beginSweep N s1) fun _ s2 =>
  gb (fX_Store_reach N s2 (gL s2 0)) fun _ s3 =>
  fX_ValueMachine_sweepIfFull_L31 N N 0 s3
def fX_Store_freeRow_L2 (N : Nat) : Nat → Int32 → SG → Option (Int32 × SG)
  | 0, _, _ => none
  | n + 1, v1, st =>
    if 29 ≤ v1 then
      some (v1, st)
    else
    if v1 < 0 ∨ 30 ≤ v1.toNatClampNeg then none else
    if (gA st 5 v1.toNatClampNeg) = 0 then
      some (v1, st)
    else
    fX_Store_freeRow_L2 N n (v1 + 1) st
def fX_Store_freeRow (N : Nat) (st : SG) : Option (Int32 × SG) :=
  fX_Store_freeRow_L2 N N 0 st
def fX_Store_make_L15 (N : Nat) : Nat → Int32 → Int32 → Int32 → Int32 → Int32 → SG → Option (Int64 × SG)
  | 0, _, _, _, _, _, _ => none
  | n + 1, v1, v2, v3, v4, v5, st =>
    if (v4 + v2) ≤ v5 then
      if v3 < 0 ∨ 30 ≤ v3.toNatClampNeg then none else
      if v3 < 0 ∨ 30 ≤ v3.toNatClampNeg then none else
      gb (fX_Value_of N (uI (uI (uA (uA st 4 (upd (gA st 4) v3.toNatClampNeg v2)) 5 (upd (gA st 5) v3.toNatClampNeg (vp_nar .boolean 1))) 4 ((gI st 4) + 1)) 5 ((gI st 5) + 1)) v1 v3) fun r2 s2 =>
      some (r2, s2)
    else
    if v5 < 0 ∨ 600 ≤ v5.toNatClampNeg then none else
    fX_Store_make_L15 N n v1 v2 v3 v4 (v5 + 1) (uB st 1 (vp_updL (gB st 1) v5.toNatClampNeg 0))
def fX_Store_make (N : Nat) (st : SG) (a0 : Int32) (a1 : Int32) : Option (Int64 × SG) :=
  gb (fX_Store_freeRow N st) fun r1 s1 =>
  fX_Store_make_L15 N N a0 a1 r1 (r1 * 20) (r1 * 20) s1
def fX_ValueMachine_makeObject (N : Nat) (st : SG) : Option (Int32 × SG) :=
  gb (fX_ValueMachine_sweepIfFull N st) fun _ s1 =>
  gb (fX_Store_isFull N s1) fun r2 s2 =>
  if r2 = 0 then
    gb (fX_Store_make N s2 4 16) fun r3 s3 =>
    gb (fX_ValueMachine_accept N s3 r3) fun r4 s4 =>
    some (r4, s4)
  else
  some (6, s2)
def fX_ValueMachine_makeArray_L51 (N : Nat) : Nat → Int32 → Int64 → Int32 → SG → Option (Int32 × SG)
  | 0, _, _, _, _ => none
  | n + 1, v1, v2, v4, st =>
    if v1 ≤ v4 then
      gb (fX_ValueStack_drop N st v1) fun _ s5 =>
      gb (fX_ValueMachine_accept N s5 v2) fun r6 s6 =>
      some (r6, s6)
    else
    gb (fX_ValueStack_at N st ((v1 - 1) - v4)) fun r7 s7 =>
    gb (fX_Store_setPart N s7 v2 v4 r7) fun _ s8 =>
    fX_ValueMachine_makeArray_L51 N n v1 v2 (v4 + 1) s8
def fX_ValueMachine_makeArray (N : Nat) (st : SG) (a0 : Int32) : Option (Int32 × SG) :=
  gb (fX_ValueStack_holds N st a0) fun r1 s1 =>
  if r1 = 0 then
    some (3, s1)
  else
  if a0 ≤ 20 then
    gb (fX_ValueMachine_sweepIfFull N s1) fun _ s2 =>
    gb (fX_Store_isFull N s2) fun r3 s3 =>
    if r3 = 0 then
      gb (fX_Store_make N s3 5 a0) fun r4 s4 =>
      fX_ValueMachine_makeArray_L51 N N a0 r4 0 s4
    else
    some (6, s3)
  else
  some (2, s1)
def fX_ValueMachine_makeFunction (N : Nat) (st : SG) (a0 : Int32) : Option (Int32 × SG) :=
  if a0 < 0 then
    some (8, st)
  else
  gb (fX_Code_hasPlace N st (a0 / 8)) fun r1 s1 =>
  if r1 = 0 then
    some (8, s1)
  else
  gb (fX_Value_of N s1 6 a0) fun r2 s2 =>
  gb (fX_ValueMachine_accept N s2 r2) fun r3 s3 =>
  some (r3, s3)
def fX_Notes_isFull (N : Nat) (st : SG) : Option (Int32 × SG) :=
  if (gI st 2) < 40 then
    some (0, st)
  else
  some (1, st)
def fX_Notes_add (N : Nat) (st : SG) (a0 : Int32) (a1 : Int32) : Option (Unit × SG) :=
  if (gI st 2) < 0 ∨ 40 ≤ (gI st 2).toNatClampNeg then none else
  if (gI st 2) < 0 ∨ 40 ≤ (gI st 2).toNatClampNeg then none else
  some ((), (uI (uA (uA st 2 (upd (gA st 2) (gI st 2).toNatClampNeg a0)) 3 (upd (gA st 3) (gI st 2).toNatClampNeg a1)) 2 ((gI st 2) + 1)))
def fX_Notes_addCall (N : Nat) (st : SG) (a0 : Int32) : Option (Unit × SG) :=
  gb (fX_Notes_add N st a0 (-1)) fun _ s1 =>
  some ((), s1)
def fX_ValueMachine_callFunction (N : Nat) (st : SG) (a0 : Int32) : Option (Int32 × SG) :=
  gb (fX_ValueStack_holds N st a0) fun r1 s1 =>
  if r1 = 0 then
    some (3, s1)
  else
  gb (fX_Value_numberOf N s1 (gL s1 0)) fun r2 s2 =>
  gb (fX_Value_sortOf N s2 (gL s2 0)) fun r3 s3 =>
  if r3 = 6 then
    if (r2 - r2 / 8 * 8) = a0 then
      gb (fX_Notes_isFull N s3) fun r4 s4 =>
      if r4 = 0 then
        gb (fX_Notes_addCall N s4 (gI s4 8)) fun _ s5 =>
        some (0, (uI s5 8 (r2 / 8)))
      else
      some (4, s4)
    else
    some (1, s3)
  else
  some (1, s3)
def fX_Notes_endWithCall (N : Nat) (st : SG) : Option (Int32 × SG) :=
  if (gI st 2) ≤ 0 then
    some (0, st)
  else
  if ((gI st 2) - 1) < 0 ∨ 40 ≤ ((gI st 2) - 1).toNatClampNeg then none else
  if (gA st 3 ((gI st 2) - 1).toNatClampNeg) = (-1) then
    some (1, st)
  else
  some (0, st)
def fX_Notes_placeOf (N : Nat) (st : SG) (a0 : Int32) : Option (Int32 × SG) :=
  if a0 < 0 ∨ 40 ≤ a0.toNatClampNeg then none else
  some (gA st 2 a0.toNatClampNeg, st)
def fX_ValueMachine_returnFromCall (N : Nat) (st : SG) (a0 : Int32) : Option (Int32 × SG) :=
  gb (fX_ValueStack_holds N st a0) fun r1 s1 =>
  if r1 = 0 then
    some (3, s1)
  else
  gb (fX_Notes_endWithCall N s1) fun r2 s2 =>
  if r2 = 0 then
    some (7, s2)
  else
  gb (fX_ValueStack_drop N s2 a0) fun _ s3 =>
  gb (fX_Notes_placeOf N (uI s3 2 ((gI s3 2) - 1)) ((gI s3 2) - 1)) fun r4 s4 =>
  some (0, (uI s4 8 r4))
def fX_Notes_addTrap (N : Nat) (st : SG) (a0 : Int32) (a1 : Int32) : Option (Unit × SG) :=
  gb (fX_Notes_add N st a0 a1) fun _ s1 =>
  some ((), s1)
def fX_ValueMachine_noteTrap (N : Nat) (st : SG) (a0 : Int32) : Option (Int32 × SG) :=
  gb (fX_Notes_isFull N st) fun r1 s1 =>
  if r1 = 0 then
    gb (fX_Code_hasPlace N s1 a0) fun r2 s2 =>
    if r2 = 0 then
      some (8, s2)
    else
    gb (fX_Notes_addTrap N s2 a0 (gI s2 1)) fun _ s3 =>
    some (0, s3)
  else
  some (4, s1)
def fX_Notes_endWithTrap (N : Nat) (st : SG) : Option (Int32 × SG) :=
  if (gI st 2) ≤ 0 then
    some (0, st)
  else
  if ((gI st 2) - 1) < 0 ∨ 40 ≤ ((gI st 2) - 1).toNatClampNeg then none else
  if (gA st 3 ((gI st 2) - 1).toNatClampNeg) = (-1) then
    some (0, st)
  else
  some (1, st)
def fX_ValueMachine_dropTrap (N : Nat) (st : SG) : Option (Int32 × SG) :=
  gb (fX_Notes_endWithTrap N st) fun r1 s1 =>
  if r1 = 0 then
    some (7, s1)
  else
  some (0, (uI s1 2 ((gI s1 2) - 1)))
def fX_ValueMachine_perform (N : Nat) (st : SG) (a0 : Int32) (a1 : Int32) : Option (Int32 × SG) :=
  if a0 = 0 then
    gb (fX_ValueMachine_accept N st 0) fun r1 s1 =>
    some (r1, s1)
  else
  if a0 = 1 then
    gb (fX_ValueMachine_accept N st 4294967296) fun r2 s2 =>
    some (r2, s2)
  else
  if a0 = 2 then
    gb (fX_ValueMachine_accept N st 8589934592) fun r3 s3 =>
    some (r3, s3)
  else
  if a0 = 3 then
    gb (fX_Value_integer N st a1) fun r4 s4 =>
    gb (fX_ValueMachine_accept N s4 r4) fun r5 s5 =>
    some (r5, s5)
  else
  if a0 = 4 then
    gb (fX_ValueMachine_takeStack N st a1) fun r6 s6 =>
    some (r6, s6)
  else
  if a0 = 5 then
    gb (fX_ValueMachine_takeGlobal N st a1) fun r7 s7 =>
    some (r7, s7)
  else
  if a0 = 6 then
    gb (fX_ValueMachine_takeField N st a1) fun r8 s8 =>
    some (r8, s8)
  else
  if a0 = 7 then
    gb (fX_ValueMachine_takeElement N st) fun r9 s9 =>
    some (r9, s9)
  else
  if a0 = 8 then
    gb (fX_ValueMachine_takeSize N st) fun r10 s10 =>
    some (r10, s10)
  else
  if a0 = 9 then
    gb (fX_ValueMachine_setStack N st a1) fun r11 s11 =>
    some (r11, s11)
  else
  if a0 = 10 then
    gb (fX_ValueMachine_setGlobal N st a1) fun r12 s12 =>
    some (r12, s12)
  else
  if a0 = 11 then
    gb (fX_ValueMachine_setField N st a1) fun r13 s13 =>
    some (r13, s13)
  else
  if a0 = 12 then
    gb (fX_ValueMachine_setElement N st) fun r14 s14 =>
    some (r14, s14)
  else
  if a0 = 13 then
    gb (fX_ValueMachine_push N st) fun r15 s15 =>
    some (r15, s15)
  else
  if a0 = 14 then
    gb (fX_ValueMachine_pop N st a1) fun r16 s16 =>
    some (r16, s16)
  else
  if a0 = 15 then
    gb (fX_ValueMachine_goIf N st 1 a1) fun r17 s17 =>
    some (r17, s17)
  else
  if a0 = 16 then
    if (gL st 0) = 8589934592 then
      gb (fX_ValueMachine_goIf N st 1 a1) fun r19 s19 =>
      some (r19, s19)
    else
    gb (fX_ValueMachine_goIf N st 0 a1) fun r18 s18 =>
    some (r18, s18)
  else
  if a0 = 17 then
    if (gL st 0) = 8589934592 then
      gb (fX_ValueMachine_goIf N st 0 a1) fun r20 s20 =>
      some (r20, s20)
    else
    gb (fX_ValueMachine_goIf N st 1 a1) fun r21 s21 =>
    some (r21, s21)
  else
  if a0 = 18 then
    gb (fX_ValueMachine_compareSame N st) fun r22 s22 =>
    some (r22, s22)
  else
  if a0 = 19 then
    gb (fX_ValueMachine_compareLess N st) fun r23 s23 =>
    some (r23, s23)
  else
  if a0 = 20 then
    gb (fX_ValueMachine_calculate N st a0) fun r24 s24 =>
    some (r24, s24)
  else
  if a0 = 21 then
    gb (fX_ValueMachine_calculate N st a0) fun r25 s25 =>
    some (r25, s25)
  else
  if a0 = 22 then
    gb (fX_ValueMachine_calculate N st a0) fun r26 s26 =>
    some (r26, s26)
  else
  if a0 = 23 then
    gb (fX_ValueMachine_divide N st a0) fun r27 s27 =>
    some (r27, s27)
  else
  if a0 = 24 then
    gb (fX_ValueMachine_divide N st a0) fun r28 s28 =>
    some (r28, s28)
  else
  if a0 = 25 then
    if (gL st 0) = 8589934592 then
      gb (fX_Value_truth N st 0) fun r29 s29 =>
      gb (fX_ValueMachine_accept N s29 r29) fun r30 s30 =>
      some (r30, s30)
    else
    gb (fX_Value_truth N st 1) fun r31 s31 =>
    gb (fX_ValueMachine_accept N s31 r31) fun r32 s32 =>
    some (r32, s32)
  else
  if a0 = 26 then
    gb (fX_Value_sortOf N st (gL st 0)) fun r33 s33 =>
    gb (fX_Value_integer N s33 r33) fun r34 s34 =>
    gb (fX_ValueMachine_accept N s34 r34) fun r35 s35 =>
    some (r35, s35)
  else
  if a0 = 27 then
    gb (fX_ValueMachine_makeObject N st) fun r36 s36 =>
    some (r36, s36)
  else
  if a0 = 28 then
    gb (fX_ValueMachine_makeArray N st a1) fun r37 s37 =>
    some (r37, s37)
  else
  if a0 = 29 then
    gb (fX_ValueMachine_makeFunction N st a1) fun r38 s38 =>
    some (r38, s38)
  else
  if a0 = 30 then
    gb (fX_ValueMachine_callFunction N st a1) fun r39 s39 =>
    some (r39, s39)
  else
  if a0 = 31 then
    gb (fX_ValueMachine_returnFromCall N st a1) fun r40 s40 =>
    some (r40, s40)
  else
  if a0 = 32 then
    gb (fX_ValueMachine_noteTrap N st a1) fun r41 s41 =>
    some (r41, s41)
  else
  if a0 = 33 then
    gb (fX_ValueMachine_dropTrap N st) fun r42 s42 =>
    some (r42, s42)
  else
  if a0 = 34 then
    some (9, st)
  else
  some (9, st)
def fX_Notes_latestTrap_L7 (N : Nat) : Nat → Int32 → SG → Option (Int32 × SG)
  | 0, _, _ => none
  | n + 1, v1, st =>
    if v1 < 0 then
      some ((-1), st)
    else
    if v1 < 0 ∨ 40 ≤ v1.toNatClampNeg then none else
    if (gA st 3 v1.toNatClampNeg) = (-1) then
      fX_Notes_latestTrap_L7 N n (v1 + (-1)) st
    else
    some (v1, st)
def fX_Notes_latestTrap (N : Nat) (st : SG) : Option (Int32 × SG) :=
  fX_Notes_latestTrap_L7 N N ((gI st 2) - 1) st
def fX_Notes_heightOf (N : Nat) (st : SG) (a0 : Int32) : Option (Int32 × SG) :=
  if a0 < 0 ∨ 40 ≤ a0.toNatClampNeg then none else
  some (gA st 3 a0.toNatClampNeg, st)
def fX_ValueMachine_goWrong (N : Nat) (st : SG) (a0 : Int32) (a1 : Int64) : Option (Unit × SG) :=
  gb (fX_Notes_latestTrap N (uI st 10 ((gI st 10) + 1))) fun r1 s1 =>
  if r1 = (-1) then
    some ((), (uL (uI (uI s1 8 a0) 7 1) 2 a1))
  else
  gb (fX_Notes_placeOf N s1 r1) fun r2 s2 =>
  gb (fX_Notes_heightOf N (uI s2 8 r2) r1) fun r3 s3 =>
  some ((), (uL (uI (uI s3 1 (if r3 < (gI s2 1) then r3 else (gI s2 1))) 2 r1) 0 a1))
def fX_ValueMachine_run_L28 (N : Nat) : Nat → Int32 → Int32 → SG → Option (Option Int32 × SG)
  | 0, _, _, _ => none
  | n + 1, v1, v2, st =>
    if v1 ≤ v2 then
      some (some v2, (uI st 9 ((gI st 9) + v2)))
    else
    gb (fX_ValueMachine_state N st) fun r1 s1 =>
    if r1 = 0 then
      gb (fX_Code_instructionAt N (uI s1 8 ((gI s1 8) + 1)) (gI s1 8)) fun r2 s2 =>
      gb (fX_Code_numberAt N s2 (gI s1 8)) fun r3 s3 =>
      gb (fX_ValueMachine_perform N s3 r2 r3) fun r4 s4 =>
      if r4 = 0 then
        fX_ValueMachine_run_L28 N n v1 (v2 + 1) s4
      else
      if r4 = 9 then
        gb (fX_ValueMachine_goWrong N s4 (gI s1 8) (gL s4 0)) fun _ s7 =>
        fX_ValueMachine_run_L28 N n v1 (v2 + 1) s7
      else
      gb (fX_Value_integer N s4 r4) fun r5 s5 =>
      gb (fX_ValueMachine_goWrong N s5 (gI s1 8) r5) fun _ s6 =>
      fX_ValueMachine_run_L28 N n v1 (v2 + 1) s6
    else
    some (some v2, (uI s1 9 ((gI s1 9) + v2)))
def fX_ValueMachine_run (N : Nat) (st : SG) (a0 : Int32) : Option (Option Int32 × SG) :=
  if a0 < 0 then
    some (none, st)
  else
  if a0 ≤ 20000 then
    fX_ValueMachine_run_L28 N N a0 0 (uL st 1 0)
  else
  some (none, st)
def fX_ValueMachine_choose (N : Nat) (st : SG) (a0 : Int64) : Option (Int32 × SG) :=
  gb (fX_Value_sortOf N (uL st 1 a0) a0) fun r1 s1 =>
  some (r1, s1)
def fX_ValueMachine_look (N : Nat) (st : SG) (a0 : Int32) (a1 : Int32) : Option (Int32 × SG) :=
  if a0 = 0 then
    gb (fX_ValueMachine_choose N st (gL st 0)) fun r1 s1 =>
    some (r1, s1)
  else
  if a0 = 1 then
    gb (fX_ValueStack_reaches N st a1) fun r2 s2 =>
    if r2 = 0 then
      some ((-1), s2)
    else
    gb (fX_ValueStack_at N s2 a1) fun r3 s3 =>
    gb (fX_ValueMachine_choose N s3 r3) fun r4 s4 =>
    some (r4, s4)
  else
  if a0 = 2 then
    gb (fX_ValueMachine_isGlobal N st a1) fun r5 s5 =>
    if r5 = 0 then
      some ((-1), s5)
    else
    if a1 < 0 ∨ 8 ≤ a1.toNatClampNeg then none else
    gb (fX_ValueMachine_choose N s5 (gB s5 2 a1.toNatClampNeg)) fun r6 s6 =>
    some (r6, s6)
  else
  if a0 = 3 then
    if (gI st 7) = 0 then
      some ((-1), st)
    else
    gb (fX_ValueMachine_choose N st (gL st 2)) fun r7 s7 =>
    some (r7, s7)
  else
  some ((-1), st)
def fX_ValueMachine_into (N : Nat) (st : SG) (a0 : Int32) : Option (Int32 × SG) :=
  gb (fX_Value_isThing N st (gL st 1)) fun r1 s1 =>
  if r1 = 0 then
    some ((-1), s1)
  else
  gb (fX_Store_hasPart N s1 (gL s1 1) a0) fun r2 s2 =>
  if r2 = 0 then
    some ((-1), s2)
  else
  gb (fX_Store_part N s2 (gL s2 1) a0) fun r3 s3 =>
  gb (fX_ValueMachine_choose N s3 r3) fun r4 s4 =>
  some (r4, s4)
def fX_ValueMachine_value (N : Nat) (st : SG) : Option (Int32 × SG) :=
  gb (fX_Value_sortOf N st (gL st 1)) fun r1 s1 =>
  if r1 = 3 then
    gb (fX_Value_numberOf N s1 (gL s1 1)) fun r2 s2 =>
    some (r2, s2)
  else
  if r1 = 4 then
    some (0, s1)
  else
  if r1 = 5 then
    gb (fX_Store_sizeOf N s1 (gL s1 1)) fun r3 s3 =>
    some (r3, s3)
  else
  if r1 = 6 then
    gb (fX_Value_numberOf N s1 (gL s1 1)) fun r4 s4 =>
    some (r4, s4)
  else
  some (0, s1)
def fX_ValueMachine_isSame (N : Nat) (st : SG) : Option (Int32 × SG) :=
  if (gL st 1) = (gL st 0) then
    some (1, st)
  else
  some (0, st)
def fX_ValueMachine_count (N : Nat) (st : SG) (a0 : Int32) : Option (Int32 × SG) :=
  if a0 = 0 then
    some (gI st 0, st)
  else
  if a0 = 1 then
    some (gI st 8, st)
  else
  if a0 = 2 then
    some (gI st 1, st)
  else
  if a0 = 3 then
    some (gI st 2, st)
  else
  if a0 = 4 then
    some (gI st 4, st)
  else
  if a0 = 5 then
    some (gI st 5, st)
  else
  if a0 = 6 then
    some (gI st 6, st)
  else
  if a0 = 7 then
    some (gI st 9, st)
  else
  if a0 = 8 then
    some (gI st 10, st)
  else
  some ((-1), st)
