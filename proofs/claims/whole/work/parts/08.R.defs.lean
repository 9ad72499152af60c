def fR_ValueMachineModel_thrown (N : Nat) (st : SG) : Option (Int32 × SG) :=
  some (gI st 0, st)
def fR_ValueMachineModel_code (N : Nat) (st : SG) (a0 : Int32) (a1 : Int32) : Option (Int32 × SG) :=
  if a0 < 0 then
    some (0, (uI st 0 1))
  else
  if a0 ≤ 34 then
    if (gI st 1) = 150 then
      some ((-1), (uI st 0 0))
    else
    if (gI st 1) < 0 ∨ 150 ≤ (gI st 1).toNatClampNeg then none else
    if (gI st 1) < 0 ∨ 150 ≤ (gI st 1).toNatClampNeg then none else
    some ((gI st 1) + 1, (uI (uA (uA (uI st 0 0) 0 (upd (gA st 0) (gI st 1).toNatClampNeg a0)) 1 (upd (gA st 1) (gI st 1).toNatClampNeg a1)) 1 ((gI st 1) + 1)))
  else
  some (0, (uI st 0 1))
def fR_ValueMachineModel_reset_L55 (N : Nat) : Nat → Int32 → SG → Option (Unit × SG)
  | 0, _, _ => none
  | n + 1, v1, st =>
    if 30 ≤ v1 then
      some ((), (uI (uI (uI (uI (uI (uI (uI (uI st 6 0) 7 0) 10 0) 11 0) 12 0) 13 0) 14 0) 15 0))
    else
    if v1 < 0 ∨ 30 ≤ v1.toNatClampNeg then none else
    fR_ValueMachineModel_reset_L55 N n (v1 + 1) (uA st 8 (upd (gA st 8) v1.toNatClampNeg 0))
def fR_ValueMachineModel_reset_L27 (N : Nat) : Nat → Int32 → SG → Option (Unit × SG)
  | 0, _, _ => none
  | n + 1, v1, st =>
    if 8 ≤ v1 then
      fR_ValueMachineModel_reset_L55 N N 0 st
    else
    if v1 < 0 ∨ 8 ≤ v1.toNatClampNeg then none else
    if v1 < 0 ∨ 8 ≤ v1.toNatClampNeg then none else
    fR_ValueMachineModel_reset_L27 N n (v1 + 1) (uA (uA st 4 (upd (gA st 4) v1.toNatClampNeg 0)) 5 (upd (gA st 5) v1.toNatClampNeg 0))
def fR_ValueMachineModel_reset (N : Nat) (st : SG) : Option (Unit × SG) :=
  fR_ValueMachineModel_reset_L27 N N 0 (uI (uI (uI (uI (uI st 0 0) 2 0) 3 0) 4 0) 5 0)
def fR_ValueMachineModel_clear (N : Nat) (st : SG) : Option (Unit × SG) :=
  gb (fR_ValueMachineModel_reset N st) fun _ s1 =>
  some ((), (uI s1 1 0))
def fR_ValueMachineModel_acc (N : Nat) (st : SG) (a0 : Int32) (a1 : Int32) : Option (Unit × SG) :=
  some ((), (uI (uI st 2 a0) 3 a1))
def fR_ValueMachineModel_truth (N : Nat) (st : SG) (a0 : Int32) : Option (Unit × SG) :=
  if a0 = 0 then
    gb (fR_ValueMachineModel_acc N st 1 0) fun _ s1 =>
    some ((), s1)
  else
  gb (fR_ValueMachineModel_acc N st 2 0) fun _ s2 =>
  some ((), s2)
def fR_ValueMachineModel_deep (N : Nat) (st : SG) (a0 : Int32) : Option (Int32 × SG) :=
  some (((gI st 4) - 1) - a0, st)
def fR_ValueMachineModel_needs (N : Nat) (st : SG) (a0 : Int32) (a1 : Int32) : Option (Int32 × SG) :=
  if a0 = 0 then
    if (gI st 16) = 0 then
      if ¬ (a0 &&& 1 = a0) then none else
      some (a0, (uI st 16 a1))
    else
    if (gI st 16) = 3 then
      if ¬ (a0 &&& 1 = a0) then none else
      some (a0, st)
    else
    if a1 = 3 then
      if ¬ (a0 &&& 1 = a0) then none else
      some (a0, (uI st 16 a1))
    else
    if (gI st 16) ≤ a1 then
      if ¬ (a0 &&& 1 = a0) then none else
      some (a0, st)
    else
    if ¬ (a0 &&& 1 = a0) then none else
    some (a0, (uI st 16 a1))
  else
  if ¬ (a0 &&& 1 = a0) then none else
  some (a0, st)
def fR_ValueMachineModel_has (N : Nat) (st : SG) (a0 : Int32) : Option (Int32 × SG) :=
  if a0 < 0 then
    gb (fR_ValueMachineModel_needs N st 0 3) fun r1 s1 =>
    if ¬ (r1 &&& 1 = r1) then none else
    some (r1, s1)
  else
  if (gI st 4) < a0 then
    gb (fR_ValueMachineModel_needs N st 0 3) fun r2 s2 =>
    if ¬ (r2 &&& 1 = r2) then none else
    some (r2, s2)
  else
  gb (fR_ValueMachineModel_needs N st 1 3) fun r3 s3 =>
  if ¬ (r3 &&& 1 = r3) then none else
  some (r3, s3)
def fR_ValueMachineModel_isSort (N : Nat) (st : SG) (a0 : Int32) (a1 : Int32) : Option (Int32 × SG) :=
  gb (fR_ValueMachineModel_deep N st a0) fun r1 s1 =>
  if r1 < 0 ∨ 120 ≤ r1.toNatClampNeg then none else
  if (gA s1 2 r1.toNatClampNeg) = a1 then
    gb (fR_ValueMachineModel_needs N s1 1 1) fun r3 s3 =>
    if ¬ (r3 &&& 1 = r3) then none else
    some (r3, s3)
  else
  gb (fR_ValueMachineModel_needs N s1 0 1) fun r2 s2 =>
  if ¬ (r2 &&& 1 = r2) then none else
  some (r2, s2)
def fR_ValueMachineModel_isAcc (N : Nat) (st : SG) (a0 : Int32) : Option (Int32 × SG) :=
  if (gI st 2) = a0 then
    gb (fR_ValueMachineModel_needs N st 1 1) fun r2 s2 =>
    if ¬ (r2 &&& 1 = r2) then none else
    some (r2, s2)
  else
  gb (fR_ValueMachineModel_needs N st 0 1) fun r1 s1 =>
  if ¬ (r1 &&& 1 = r1) then none else
  some (r1, s1)
def fR_ValueMachineModel_isPlace (N : Nat) (st : SG) (a0 : Int32) : Option (Int32 × SG) :=
  if a0 < 0 then
    gb (fR_ValueMachineModel_needs N st 0 8) fun r1 s1 =>
    if ¬ (r1 &&& 1 = r1) then none else
    some (r1, s1)
  else
  if (gI st 1) < a0 then
    gb (fR_ValueMachineModel_needs N st 0 8) fun r2 s2 =>
    if ¬ (r2 &&& 1 = r2) then none else
    some (r2, s2)
  else
  gb (fR_ValueMachineModel_needs N st 1 8) fun r3 s3 =>
  if ¬ (r3 &&& 1 = r3) then none else
  some (r3, s3)
def fR_ValueMachineModel_meets (N : Nat) (st : SG) (a0 : Int32) (a1 : Int32) : Option (Unit × SG) :=
  if a0 = 4 then
    if a1 < 0 ∨ 30 ≤ a1.toNatClampNeg then none else
    some ((), (uA st 12 (upd (gA st 12) a1.toNatClampNeg (vp_nar .boolean 1))))
  else
  if a0 = 5 then
    if a1 < 0 ∨ 30 ≤ a1.toNatClampNeg then none else
    some ((), (uA st 12 (upd (gA st 12) a1.toNatClampNeg (vp_nar .boolean 1))))
  else
  some ((), st)
def fR_ValueMachineModel_many_L4 (N : Nat) : Nat → Int32 → Int32 → SG → Option (Int32 × SG)
  | 0, _, _, _ => none
  | n + 1, v1, v2, st =>
    if 30 ≤ v2 then
      some (v1, st)
    else
    if v2 < 0 ∨ 30 ≤ v2.toNatClampNeg then none else
    if (gA st 8 v2.toNatClampNeg) = 0 then
      fR_ValueMachineModel_many_L4 N n (v1 + 0) (v2 + 1) st
    else
    fR_ValueMachineModel_many_L4 N n (v1 + 1) (v2 + 1) st
def fR_ValueMachineModel_many (N : Nat) (st : SG) : Option (Int32 × SG) :=
  fR_ValueMachineModel_many_L4 N N 0 0 st
def fR_ValueMachineModel_sweeps_L188 (N : Nat) : Nat → Int32 → SG → Option (Unit × SG)
  | 0, _, _ => none
  | n + 1, v1, st =>
    if 30 ≤ v1 then
      some ((), st)
    else
    if v1 < 0 ∨ 30 ≤ v1.toNatClampNeg then none else
    if (gA st 12 v1.toNatClampNeg) = 0 then
      if v1 < 0 ∨ 30 ≤ v1.toNatClampNeg then none else
      fR_ValueMachineModel_sweeps_L188 N n (v1 + 1) (uA st 8 (upd (gA st 8) v1.toNatClampNeg 0))
    else
    if v1 < 0 ∨ 30 ≤ v1.toNatClampNeg then none else
    if v1 < 0 ∨ 30 ≤ v1.toNatClampNeg then none else
    fR_ValueMachineModel_sweeps_L188 N n (v1 + 1) (uA st 8 (upd (gA st 8) v1.toNatClampNeg (gA st 8 v1.toNatClampNeg)))
def fR_ValueMachineModel_sweeps_L123 (N : Nat) (K115 : Int32 → Int32 → SG → Option (Unit × SG)) : Nat → Int32 → Int32 → Int32 → SG → Option (Unit × SG)
  | 0, _, _, _, _ => none
  | n + 1, v1, v2, v3, st =>
    if v2 < 0 ∨ 30 ≤ v2.toNatClampNeg then none else
    if (gA st 9 v2.toNatClampNeg) ≤ v3 then
      K115 v1 (v2 + 1) st
    else
    if v2 < 0 ∨ 30 ≤ v2.toNatClampNeg then none else
    if (gA st 12 v2.toNatClampNeg) = 0 then
      K115 v1 (v2 + 1) st
    else
    if ((20 * v2) + v3) < 0 ∨ 600 ≤ ((20 * v2) + v3).toNatClampNeg then none else
    if ((20 * v2) + v3) < 0 ∨ 600 ≤ ((20 * v2) + v3).toNatClampNeg then none else
    gb (fR_ValueMachineModel_meets N st (gA st 10 ((20 * v2) + v3).toNatClampNeg) (gA st 11 ((20 * v2) + v3).toNatClampNeg)) fun _ s2 =>
    fR_ValueMachineModel_sweeps_L123 N K115 n v1 v2 (v3 + 1) s2
def fR_ValueMachineModel_sweeps_L115 (N : Nat) (K107 : Int32 → SG → Option (Unit × SG)) : Nat → Int32 → Int32 → SG → Option (Unit × SG)
  | 0, _, _, _ => none
  | n + 1, v1, v2, st =>
    if 30 ≤ v2 then
      K107 (v1 + 1) st
    else
    fR_ValueMachineModel_sweeps_L123 N (fR_ValueMachineModel_sweeps_L115 N K107 n) N v1 v2 0 st
def fR_ValueMachineModel_sweeps_L107 (N : Nat) : Nat → Int32 → SG → Option (Unit × SG)
  | 0, _, _ => none
  | n + 1, v1, st =>
    if 30 ≤ v1 then
      fR_ValueMachineModel_sweeps_L188 N N 0 st
    else
    fR_ValueMachineModel_sweeps_L115 N (fR_ValueMachineModel_sweeps_L107 N n) N v1 0 st
def fR_ValueMachineModel_sweeps_L77 (N : Nat) : Nat → Int32 → SG → Option (Unit × SG)
  | 0, _, _ => none
  | n + 1, v1, st =>
    if 8 ≤ v1 then
      fR_ValueMachineModel_sweeps_L107 N N 0 st
    else
    if v1 < 0 ∨ 8 ≤ v1.toNatClampNeg then none else
    if v1 < 0 ∨ 8 ≤ v1.toNatClampNeg then none else
    gb (fR_ValueMachineModel_meets N st (gA st 4 v1.toNatClampNeg) (gA st 5 v1.toNatClampNeg)) fun _ s3 =>
    fR_ValueMachineModel_sweeps_L77 N n (v1 + 1) s3
def fR_ValueMachineModel_sweeps_L45 (N : Nat) : Nat → Int32 → SG → Option (Unit × SG)
  | 0, _, _ => none
  | n + 1, v1, st =>
    if (gI st 4) ≤ v1 then
      fR_ValueMachineModel_sweeps_L77 N N 0 st
    else
    if v1 < 0 ∨ 120 ≤ v1.toNatClampNeg then none else
    if v1 < 0 ∨ 120 ≤ v1.toNatClampNeg then none else
    gb (fR_ValueMachineModel_meets N st (gA st 2 v1.toNatClampNeg) (gA st 3 v1.toNatClampNeg)) fun _ s4 =>
    fR_ValueMachineModel_sweeps_L45 N n (v1 + 1) s4
def fR_ValueMachineModel_sweeps_L12 (N : Nat) : Nat → Int32 → SG → Option (Unit × SG)
  | 0, _, _ => none
  | n + 1, v1, st =>
    if 30 ≤ v1 then
      gb (fR_ValueMachineModel_meets N st (gI st 2) (gI st 3)) fun _ s1 =>
      fR_ValueMachineModel_sweeps_L45 N N 0 s1
    else
    if v1 < 0 ∨ 30 ≤ v1.toNatClampNeg then none else
    fR_ValueMachineModel_sweeps_L12 N n (v1 + 1) (uA st 12 (upd (gA st 12) v1.toNatClampNeg (vp_nar .boolean 0)))
def fR_ValueMachineModel_sweeps (N : Nat) (st : SG) : Option (Unit × SG) :=
  fR_ValueMachineModel_sweeps_L12 N N 0 (uI st 13 ((gI st 13) + 1))
def fR_ValueMachineModel_makes_L85 (N : Nat) : Nat → Int32 → Int32 → SG → Option (Int32 × SG)
  | 0, _, _, _ => none
  | n + 1, v3, v4, st =>
    if 20 ≤ v4 then
      some (v3, st)
    else
    if ((20 * v3) + v4) < 0 ∨ 600 ≤ ((20 * v3) + v4).toNatClampNeg then none else
    if ((20 * v3) + v4) < 0 ∨ 600 ≤ ((20 * v3) + v4).toNatClampNeg then none else
    fR_ValueMachineModel_makes_L85 N n v3 (v4 + 1) (uA (uA st 10 (upd (gA st 10) ((20 * v3) + v4).toNatClampNeg 0)) 11 (upd (gA st 11) ((20 * v3) + v4).toNatClampNeg 0))
def fR_ValueMachineModel_makes_L15 (N : Nat) : Nat → Int32 → Int32 → Int32 → SG → Option (Int32 × SG)
  | 0, _, _, _, _ => none
  | n + 1, v1, v2, v3, st =>
    if 30 ≤ v3 then
      if 30 ≤ v3 then
        gb (fR_ValueMachineModel_needs N st 0 6) fun r2 s2 =>
        if r2 = 0 then
          some ((-1), s2)
        else
        if v3 < 0 ∨ 30 ≤ v3.toNatClampNeg then none else
        if v3 < 0 ∨ 30 ≤ v3.toNatClampNeg then none else
        fR_ValueMachineModel_makes_L85 N N v3 0 (uA (uA (uI s2 12 ((gI s2 12) + 1)) 8 (upd (gA s2 8) v3.toNatClampNeg v1)) 9 (upd (gA s2 9) v3.toNatClampNeg v2))
      else
      gb (fR_ValueMachineModel_needs N st 1 6) fun r3 s3 =>
      if r3 = 0 then
        some ((-1), s3)
      else
      if v3 < 0 ∨ 30 ≤ v3.toNatClampNeg then none else
      if v3 < 0 ∨ 30 ≤ v3.toNatClampNeg then none else
      fR_ValueMachineModel_makes_L85 N N v3 0 (uA (uA (uI s3 12 ((gI s3 12) + 1)) 8 (upd (gA s3 8) v3.toNatClampNeg v1)) 9 (upd (gA s3 9) v3.toNatClampNeg v2))
    else
    if v3 < 0 ∨ 30 ≤ v3.toNatClampNeg then none else
    if (gA st 8 v3.toNatClampNeg) = 0 then
      if 30 ≤ v3 then
        gb (fR_ValueMachineModel_needs N st 0 6) fun r4 s4 =>
        if r4 = 0 then
          some ((-1), s4)
        else
        if v3 < 0 ∨ 30 ≤ v3.toNatClampNeg then none else
        if v3 < 0 ∨ 30 ≤ v3.toNatClampNeg then none else
        fR_ValueMachineModel_makes_L85 N N v3 0 (uA (uA (uI s4 12 ((gI s4 12) + 1)) 8 (upd (gA s4 8) v3.toNatClampNeg v1)) 9 (upd (gA s4 9) v3.toNatClampNeg v2))
      else
      gb (fR_ValueMachineModel_needs N st 1 6) fun r5 s5 =>
      if r5 = 0 then
        some ((-1), s5)
      else
      if v3 < 0 ∨ 30 ≤ v3.toNatClampNeg then none else
      if v3 < 0 ∨ 30 ≤ v3.toNatClampNeg then none else
      fR_ValueMachineModel_makes_L85 N N v3 0 (uA (uA (uI s5 12 ((gI s5 12) + 1)) 8 (upd (gA s5 8) v3.toNatClampNeg v1)) 9 (upd (gA s5 9) v3.toNatClampNeg v2))
    else
    fR_ValueMachineModel_makes_L15 N n v1 v2 (v3 + 1) st
def fR_ValueMachineModel_makes (N : Nat) (st : SG) (a0 : Int32) (a1 : Int32) : Option (Int32 × SG) :=
  gb (fR_ValueMachineModel_many N st) fun r1 s1 =>
  if r1 = 30 then
    gb (fR_ValueMachineModel_sweeps N s1) fun _ s6 =>
    fR_ValueMachineModel_makes_L15 N N a0 a1 0 s6
  else
  fR_ValueMachineModel_makes_L15 N N a0 a1 0 s1
def fR_ValueMachineModel_object (N : Nat) (st : SG) : Option (Unit × SG) :=
  gb (fR_ValueMachineModel_makes N st 4 16) fun r1 s1 =>
  if r1 = (-1) then
    some ((), s1)
  else
  gb (fR_ValueMachineModel_acc N s1 4 r1) fun _ s2 =>
  some ((), s2)
def fR_ValueMachineModel_array_L46 (N : Nat) : Nat → Int32 → Int32 → Int32 → SG → Option (Unit × SG)
  | 0, _, _, _, _ => none
  | n + 1, v1, v2, v3, st =>
    if v1 ≤ v3 then
      gb (fR_ValueMachineModel_acc N (uI st 4 ((gI st 4) - v1)) 5 v2) fun _ s4 =>
      some ((), s4)
    else
    if (((gI st 4) - v1) + v3) < 0 ∨ 120 ≤ (((gI st 4) - v1) + v3).toNatClampNeg then none else
    if ((20 * v2) + v3) < 0 ∨ 600 ≤ ((20 * v2) + v3).toNatClampNeg then none else
    if (((gI st 4) - v1) + v3) < 0 ∨ 120 ≤ (((gI st 4) - v1) + v3).toNatClampNeg then none else
    if ((20 * v2) + v3) < 0 ∨ 600 ≤ ((20 * v2) + v3).toNatClampNeg then none else
    fR_ValueMachineModel_array_L46 N n v1 v2 (v3 + 1) (uA (uA st 10 (upd (gA st 10) ((20 * v2) + v3).toNatClampNeg (gA st 2 (((gI st 4) - v1) + v3).toNatClampNeg))) 11 (upd (gA st 11) ((20 * v2) + v3).toNatClampNeg (gA st 3 (((gI st 4) - v1) + v3).toNatClampNeg)))
def fR_ValueMachineModel_array (N : Nat) (st : SG) (a0 : Int32) : Option (Unit × SG) :=
  gb (fR_ValueMachineModel_has N st a0) fun r1 s1 =>
  if 20 < a0 then
    gb (fR_ValueMachineModel_needs N s1 0 2) fun r2 s2 =>
    if (gI s2 16) ≤ 0 then
      gb (fR_ValueMachineModel_makes N s2 5 a0) fun r3 s3 =>
      if r3 = (-1) then
        some ((), s3)
      else
      fR_ValueMachineModel_array_L46 N N a0 r3 0 s3
    else
    some ((), s2)
  else
  gb (fR_ValueMachineModel_needs N s1 1 2) fun r5 s5 =>
  if (gI s5 16) ≤ 0 then
    gb (fR_ValueMachineModel_makes N s5 5 a0) fun r6 s6 =>
    if r6 = (-1) then
      some ((), s6)
    else
    fR_ValueMachineModel_array_L46 N N a0 r6 0 s6
  else
  some ((), s5)
def fR_ValueMachineModel_same (N : Nat) (st : SG) (a0 : Int32) (a1 : Int32) (a2 : Int32) (a3 : Int32) : Option (Int32 × SG) :=
  if a0 = a2 then
    if a0 < 3 then
      some (1, st)
    else
    if a1 = a3 then
      some (1, st)
    else
    some (0, st)
  else
  some (0, st)
def fR_ValueMachineModel_element (N : Nat) (st : SG) : Option (Unit × SG) :=
  gb (fR_ValueMachineModel_has N st 1) fun r1 s1 =>
  if r1 = 0 then
    some ((), s1)
  else
  gb (fR_ValueMachineModel_isSort N s1 0 5) fun r2 s2 =>
  if r2 = 0 then
    gb (fR_ValueMachineModel_isAcc N s2 3) fun r18 s18 =>
    if r18 = 0 then
      if ((1 : Int32) ||| 1) = 0 then
        gb (fR_ValueMachineModel_deep N s18 0) fun r26 s26 =>
        if r26 < 0 ∨ 120 ≤ r26.toNatClampNeg then none else
        if (gI s26 3) < 0 then
          gb (fR_ValueMachineModel_needs N s26 0 2) fun r27 s27 =>
          if r27 = 0 then
            some ((), s27)
          else
          if ((20 * (gA s26 3 r26.toNatClampNeg)) + (gI s26 3)) < 0 ∨ 600 ≤ ((20 * (gA s26 3 r26.toNatClampNeg)) + (gI s26 3)).toNatClampNeg then none else
          if ((20 * (gA s26 3 r26.toNatClampNeg)) + (gI s26 3)) < 0 ∨ 600 ≤ ((20 * (gA s26 3 r26.toNatClampNeg)) + (gI s26 3)).toNatClampNeg then none else
          gb (fR_ValueMachineModel_acc N s27 (gA s27 10 ((20 * (gA s26 3 r26.toNatClampNeg)) + (gI s26 3)).toNatClampNeg) (gA s27 11 ((20 * (gA s26 3 r26.toNatClampNeg)) + (gI s26 3)).toNatClampNeg)) fun _ s28 =>
          some ((), (uI s28 4 ((gI s28 4) - 1)))
        else
        if (gA s26 3 r26.toNatClampNeg) < 0 ∨ 30 ≤ (gA s26 3 r26.toNatClampNeg).toNatClampNeg then none else
        if (gA s26 9 (gA s26 3 r26.toNatClampNeg).toNatClampNeg) ≤ (gI s26 3) then
          gb (fR_ValueMachineModel_needs N s26 0 2) fun r29 s29 =>
          if r29 = 0 then
            some ((), s29)
          else
          if ((20 * (gA s26 3 r26.toNatClampNeg)) + (gI s26 3)) < 0 ∨ 600 ≤ ((20 * (gA s26 3 r26.toNatClampNeg)) + (gI s26 3)).toNatClampNeg then none else
          if ((20 * (gA s26 3 r26.toNatClampNeg)) + (gI s26 3)) < 0 ∨ 600 ≤ ((20 * (gA s26 3 r26.toNatClampNeg)) + (gI s26 3)).toNatClampNeg then none else
          gb (fR_ValueMachineModel_acc N s29 (gA s29 10 ((20 * (gA s26 3 r26.toNatClampNeg)) + (gI s26 3)).toNatClampNeg) (gA s29 11 ((20 * (gA s26 3 r26.toNatClampNeg)) + (gI s26 3)).toNatClampNeg)) fun _ s30 =>
          some ((), (uI s30 4 ((gI s30 4) - 1)))
        else
        gb (fR_ValueMachineModel_needs N s26 1 2) fun r31 s31 =>
        if r31 = 0 then
          some ((), s31)
        else
        if ((20 * (gA s26 3 r26.toNatClampNeg)) + (gI s26 3)) < 0 ∨ 600 ≤ ((20 * (gA s26 3 r26.toNatClampNeg)) + (gI s26 3)).toNatClampNeg then none else
        if ((20 * (gA s26 3 r26.toNatClampNeg)) + (gI s26 3)) < 0 ∨ 600 ≤ ((20 * (gA s26 3 r26.toNatClampNeg)) + (gI s26 3)).toNatClampNeg then none else
        gb (fR_ValueMachineModel_acc N s31 (gA s31 10 ((20 * (gA s26 3 r26.toNatClampNeg)) + (gI s26 3)).toNatClampNeg) (gA s31 11 ((20 * (gA s26 3 r26.toNatClampNeg)) + (gI s26 3)).toNatClampNeg)) fun _ s32 =>
        some ((), (uI s32 4 ((gI s32 4) - 1)))
      else
      some ((), s18)
    else
    if ((1 : Int32) ||| 0) = 0 then
      gb (fR_ValueMachineModel_deep N s18 0) fun r19 s19 =>
      if r19 < 0 ∨ 120 ≤ r19.toNatClampNeg then none else
      if (gI s19 3) < 0 then
        gb (fR_ValueMachineModel_needs N s19 0 2) fun r20 s20 =>
        if r20 = 0 then
          some ((), s20)
        else
        if ((20 * (gA s19 3 r19.toNatClampNeg)) + (gI s19 3)) < 0 ∨ 600 ≤ ((20 * (gA s19 3 r19.toNatClampNeg)) + (gI s19 3)).toNatClampNeg then none else
        if ((20 * (gA s19 3 r19.toNatClampNeg)) + (gI s19 3)) < 0 ∨ 600 ≤ ((20 * (gA s19 3 r19.toNatClampNeg)) + (gI s19 3)).toNatClampNeg then none else
        gb (fR_ValueMachineModel_acc N s20 (gA s20 10 ((20 * (gA s19 3 r19.toNatClampNeg)) + (gI s19 3)).toNatClampNeg) (gA s20 11 ((20 * (gA s19 3 r19.toNatClampNeg)) + (gI s19 3)).toNatClampNeg)) fun _ s21 =>
        some ((), (uI s21 4 ((gI s21 4) - 1)))
      else
      if (gA s19 3 r19.toNatClampNeg) < 0 ∨ 30 ≤ (gA s19 3 r19.toNatClampNeg).toNatClampNeg then none else
      if (gA s19 9 (gA s19 3 r19.toNatClampNeg).toNatClampNeg) ≤ (gI s19 3) then
        gb (fR_ValueMachineModel_needs N s19 0 2) fun r22 s22 =>
        if r22 = 0 then
          some ((), s22)
        else
        if ((20 * (gA s19 3 r19.toNatClampNeg)) + (gI s19 3)) < 0 ∨ 600 ≤ ((20 * (gA s19 3 r19.toNatClampNeg)) + (gI s19 3)).toNatClampNeg then none else
        if ((20 * (gA s19 3 r19.toNatClampNeg)) + (gI s19 3)) < 0 ∨ 600 ≤ ((20 * (gA s19 3 r19.toNatClampNeg)) + (gI s19 3)).toNatClampNeg then none else
        gb (fR_ValueMachineModel_acc N s22 (gA s22 10 ((20 * (gA s19 3 r19.toNatClampNeg)) + (gI s19 3)).toNatClampNeg) (gA s22 11 ((20 * (gA s19 3 r19.toNatClampNeg)) + (gI s19 3)).toNatClampNeg)) fun _ s23 =>
        some ((), (uI s23 4 ((gI s23 4) - 1)))
      else
      gb (fR_ValueMachineModel_needs N s19 1 2) fun r24 s24 =>
      if r24 = 0 then
        some ((), s24)
      else
      if ((20 * (gA s19 3 r19.toNatClampNeg)) + (gI s19 3)) < 0 ∨ 600 ≤ ((20 * (gA s19 3 r19.toNatClampNeg)) + (gI s19 3)).toNatClampNeg then none else
      if ((20 * (gA s19 3 r19.toNatClampNeg)) + (gI s19 3)) < 0 ∨ 600 ≤ ((20 * (gA s19 3 r19.toNatClampNeg)) + (gI s19 3)).toNatClampNeg then none else
      gb (fR_ValueMachineModel_acc N s24 (gA s24 10 ((20 * (gA s19 3 r19.toNatClampNeg)) + (gI s19 3)).toNatClampNeg) (gA s24 11 ((20 * (gA s19 3 r19.toNatClampNeg)) + (gI s19 3)).toNatClampNeg)) fun _ s25 =>
      some ((), (uI s25 4 ((gI s25 4) - 1)))
    else
    some ((), s18)
  else
  gb (fR_ValueMachineModel_isAcc N s2 3) fun r3 s3 =>
  if r3 = 0 then
    if ((0 : Int32) ||| 1) = 0 then
      gb (fR_ValueMachineModel_deep N s3 0) fun r11 s11 =>
      if r11 < 0 ∨ 120 ≤ r11.toNatClampNeg then none else
      if (gI s11 3) < 0 then
        gb (fR_ValueMachineModel_needs N s11 0 2) fun r12 s12 =>
        if r12 = 0 then
          some ((), s12)
        else
        if ((20 * (gA s11 3 r11.toNatClampNeg)) + (gI s11 3)) < 0 ∨ 600 ≤ ((20 * (gA s11 3 r11.toNatClampNeg)) + (gI s11 3)).toNatClampNeg then none else
        if ((20 * (gA s11 3 r11.toNatClampNeg)) + (gI s11 3)) < 0 ∨ 600 ≤ ((20 * (gA s11 3 r11.toNatClampNeg)) + (gI s11 3)).toNatClampNeg then none else
        gb (fR_ValueMachineModel_acc N s12 (gA s12 10 ((20 * (gA s11 3 r11.toNatClampNeg)) + (gI s11 3)).toNatClampNeg) (gA s12 11 ((20 * (gA s11 3 r11.toNatClampNeg)) + (gI s11 3)).toNatClampNeg)) fun _ s13 =>
        some ((), (uI s13 4 ((gI s13 4) - 1)))
      else
      if (gA s11 3 r11.toNatClampNeg) < 0 ∨ 30 ≤ (gA s11 3 r11.toNatClampNeg).toNatClampNeg then none else
      if (gA s11 9 (gA s11 3 r11.toNatClampNeg).toNatClampNeg) ≤ (gI s11 3) then
        gb (fR_ValueMachineModel_needs N s11 0 2) fun r14 s14 =>
        if r14 = 0 then
          some ((), s14)
        else
        if ((20 * (gA s11 3 r11.toNatClampNeg)) + (gI s11 3)) < 0 ∨ 600 ≤ ((20 * (gA s11 3 r11.toNatClampNeg)) + (gI s11 3)).toNatClampNeg then none else
        if ((20 * (gA s11 3 r11.toNatClampNeg)) + (gI s11 3)) < 0 ∨ 600 ≤ ((20 * (gA s11 3 r11.toNatClampNeg)) + (gI s11 3)).toNatClampNeg then none else
        gb (fR_ValueMachineModel_acc N s14 (gA s14 10 ((20 * (gA s11 3 r11.toNatClampNeg)) + (gI s11 3)).toNatClampNeg) (gA s14 11 ((20 * (gA s11 3 r11.toNatClampNeg)) + (gI s11 3)).toNatClampNeg)) fun _ s15 =>
        some ((), (uI s15 4 ((gI s15 4) - 1)))
      else
      gb (fR_ValueMachineModel_needs N s11 1 2) fun r16 s16 =>
      if r16 = 0 then
        some ((), s16)
      else
      if ((20 * (gA s11 3 r11.toNatClampNeg)) + (gI s11 3)) < 0 ∨ 600 ≤ ((20 * (gA s11 3 r11.toNatClampNeg)) + (gI s11 3)).toNatClampNeg then none else
      if ((20 * (gA s11 3 r11.toNatClampNeg)) + (gI s11 3)) < 0 ∨ 600 ≤ ((20 * (gA s11 3 r11.toNatClampNeg)) + (gI s11 3)).toNatClampNeg then none else
      gb (fR_ValueMachineModel_acc N s16 (gA s16 10 ((20 * (gA s11 3 r11.toNatClampNeg)) + (gI s11 3)).toNatClampNeg) (gA s16 11 ((20 * (gA s11 3 r11.toNatClampNeg)) + (gI s11 3)).toNatClampNeg)) fun _ s17 =>
      some ((), (uI s17 4 ((gI s17 4) - 1)))
    else
    some ((), s3)
  else
  if ((0 : Int32) ||| 0) = 0 then
    gb (fR_ValueMachineModel_deep N s3 0) fun r4 s4 =>
    if r4 < 0 ∨ 120 ≤ r4.toNatClampNeg then none else
    if (gI s4 3) < 0 then
      gb (fR_ValueMachineModel_needs N s4 0 2) fun r5 s5 =>
      if r5 = 0 then
        some ((), s5)
      else
      if ((20 * (gA s4 3 r4.toNatClampNeg)) + (gI s4 3)) < 0 ∨ 600 ≤ ((20 * (gA s4 3 r4.toNatClampNeg)) + (gI s4 3)).toNatClampNeg then none else
      if ((20 * (gA s4 3 r4.toNatClampNeg)) + (gI s4 3)) < 0 ∨ 600 ≤ ((20 * (gA s4 3 r4.toNatClampNeg)) + (gI s4 3)).toNatClampNeg then none else
      gb (fR_ValueMachineModel_acc N s5 (gA s5 10 ((20 * (gA s4 3 r4.toNatClampNeg)) + (gI s4 3)).toNatClampNeg) (gA s5 11 ((20 * (gA s4 3 r4.toNatClampNeg)) + (gI s4 3)).toNatClampNeg)) fun _ s6 =>
      some ((), (uI s6 4 ((gI s6 4) - 1)))
    else
    if (gA s4 3 r4.toNatClampNeg) < 0 ∨ 30 ≤ (gA s4 3 r4.toNatClampNeg).toNatClampNeg then none else
    if (gA s4 9 (gA s4 3 r4.toNatClampNeg).toNatClampNeg) ≤ (gI s4 3) then
      gb (fR_ValueMachineModel_needs N s4 0 2) fun r7 s7 =>
      if r7 = 0 then
        some ((), s7)
      else
      if ((20 * (gA s4 3 r4.toNatClampNeg)) + (gI s4 3)) < 0 ∨ 600 ≤ ((20 * (gA s4 3 r4.toNatClampNeg)) + (gI s4 3)).toNatClampNeg then none else
      if ((20 * (gA s4 3 r4.toNatClampNeg)) + (gI s4 3)) < 0 ∨ 600 ≤ ((20 * (gA s4 3 r4.toNatClampNeg)) + (gI s4 3)).toNatClampNeg then none else
      gb (fR_ValueMachineModel_acc N s7 (gA s7 10 ((20 * (gA s4 3 r4.toNatClampNeg)) + (gI s4 3)).toNatClampNeg) (gA s7 11 ((20 * (gA s4 3 r4.toNatClampNeg)) + (gI s4 3)).toNatClampNeg)) fun _ s8 =>
      some ((), (uI s8 4 ((gI s8 4) - 1)))
    else
    gb (fR_ValueMachineModel_needs N s4 1 2) fun r9 s9 =>
    if r9 = 0 then
      some ((), s9)
    else
    if ((20 * (gA s4 3 r4.toNatClampNeg)) + (gI s4 3)) < 0 ∨ 600 ≤ ((20 * (gA s4 3 r4.toNatClampNeg)) + (gI s4 3)).toNatClampNeg then none else
    if ((20 * (gA s4 3 r4.toNatClampNeg)) + (gI s4 3)) < 0 ∨ 600 ≤ ((20 * (gA s4 3 r4.toNatClampNeg)) + (gI s4 3)).toNatClampNeg then none else
    gb (fR_ValueMachineModel_acc N s9 (gA s9 10 ((20 * (gA s4 3 r4.toNatClampNeg)) + (gI s4 3)).toNatClampNeg) (gA s9 11 ((20 * (gA s4 3 r4.toNatClampNeg)) + (gI s4 3)).toNatClampNeg)) fun _ s10 =>
    some ((), (uI s10 4 ((gI s10 4) - 1)))
  else
  some ((), s3)
def fR_ValueMachineModel_loads (N : Nat) (st : SG) (a0 : Int32) (a1 : Int32) : Option (Unit × SG) :=
  if a0 = 4 then
    if a1 < 0 then
      gb (fR_ValueMachineModel_needs N st 0 3) fun r1 s1 =>
      if r1 = 0 then
        some ((), s1)
      else
      gb (fR_ValueMachineModel_deep N s1 a1) fun r2 s2 =>
      if r2 < 0 ∨ 120 ≤ r2.toNatClampNeg then none else
      gb (fR_ValueMachineModel_deep N s2 a1) fun r3 s3 =>
      if r3 < 0 ∨ 120 ≤ r3.toNatClampNeg then none else
      gb (fR_ValueMachineModel_acc N s3 (gA s2 2 r2.toNatClampNeg) (gA s3 3 r3.toNatClampNeg)) fun _ s4 =>
      some ((), s4)
    else
    if (gI st 4) ≤ a1 then
      gb (fR_ValueMachineModel_needs N st 0 3) fun r5 s5 =>
      if r5 = 0 then
        some ((), s5)
      else
      gb (fR_ValueMachineModel_deep N s5 a1) fun r6 s6 =>
      if r6 < 0 ∨ 120 ≤ r6.toNatClampNeg then none else
      gb (fR_ValueMachineModel_deep N s6 a1) fun r7 s7 =>
      if r7 < 0 ∨ 120 ≤ r7.toNatClampNeg then none else
      gb (fR_ValueMachineModel_acc N s7 (gA s6 2 r6.toNatClampNeg) (gA s7 3 r7.toNatClampNeg)) fun _ s8 =>
      some ((), s8)
    else
    gb (fR_ValueMachineModel_needs N st 1 3) fun r9 s9 =>
    if r9 = 0 then
      some ((), s9)
    else
    gb (fR_ValueMachineModel_deep N s9 a1) fun r10 s10 =>
    if r10 < 0 ∨ 120 ≤ r10.toNatClampNeg then none else
    gb (fR_ValueMachineModel_deep N s10 a1) fun r11 s11 =>
    if r11 < 0 ∨ 120 ≤ r11.toNatClampNeg then none else
    gb (fR_ValueMachineModel_acc N s11 (gA s10 2 r10.toNatClampNeg) (gA s11 3 r11.toNatClampNeg)) fun _ s12 =>
    some ((), s12)
  else
  if a0 = 5 then
    if a1 < 0 then
      gb (fR_ValueMachineModel_needs N st 0 8) fun r13 s13 =>
      if r13 = 0 then
        some ((), s13)
      else
      if a1 < 0 ∨ 8 ≤ a1.toNatClampNeg then none else
      if a1 < 0 ∨ 8 ≤ a1.toNatClampNeg then none else
      gb (fR_ValueMachineModel_acc N s13 (gA s13 4 a1.toNatClampNeg) (gA s13 5 a1.toNatClampNeg)) fun _ s14 =>
      some ((), s14)
    else
    if 8 ≤ a1 then
      gb (fR_ValueMachineModel_needs N st 0 8) fun r15 s15 =>
      if r15 = 0 then
        some ((), s15)
      else
      if a1 < 0 ∨ 8 ≤ a1.toNatClampNeg then none else
      if a1 < 0 ∨ 8 ≤ a1.toNatClampNeg then none else
      gb (fR_ValueMachineModel_acc N s15 (gA s15 4 a1.toNatClampNeg) (gA s15 5 a1.toNatClampNeg)) fun _ s16 =>
      some ((), s16)
    else
    gb (fR_ValueMachineModel_needs N st 1 8) fun r17 s17 =>
    if r17 = 0 then
      some ((), s17)
    else
    if a1 < 0 ∨ 8 ≤ a1.toNatClampNeg then none else
    if a1 < 0 ∨ 8 ≤ a1.toNatClampNeg then none else
    gb (fR_ValueMachineModel_acc N s17 (gA s17 4 a1.toNatClampNeg) (gA s17 5 a1.toNatClampNeg)) fun _ s18 =>
    some ((), s18)
  else
  if a0 = 6 then
    gb (fR_ValueMachineModel_isAcc N st 4) fun r19 s19 =>
    if a1 < 0 then
      gb (fR_ValueMachineModel_needs N s19 0 8) fun r20 s20 =>
      if (gI s20 16) = 0 then
        if ((20 * (gI s20 3)) + a1) < 0 ∨ 600 ≤ ((20 * (gI s20 3)) + a1).toNatClampNeg then none else
        if ((20 * (gI s20 3)) + a1) < 0 ∨ 600 ≤ ((20 * (gI s20 3)) + a1).toNatClampNeg then none else
        gb (fR_ValueMachineModel_acc N s20 (gA s20 10 ((20 * (gI s20 3)) + a1).toNatClampNeg) (gA s20 11 ((20 * (gI s20 3)) + a1).toNatClampNeg)) fun _ s21 =>
        some ((), s21)
      else
      some ((), s20)
    else
    if 16 ≤ a1 then
      gb (fR_ValueMachineModel_needs N s19 0 8) fun r22 s22 =>
      if (gI s22 16) = 0 then
        if ((20 * (gI s22 3)) + a1) < 0 ∨ 600 ≤ ((20 * (gI s22 3)) + a1).toNatClampNeg then none else
        if ((20 * (gI s22 3)) + a1) < 0 ∨ 600 ≤ ((20 * (gI s22 3)) + a1).toNatClampNeg then none else
        gb (fR_ValueMachineModel_acc N s22 (gA s22 10 ((20 * (gI s22 3)) + a1).toNatClampNeg) (gA s22 11 ((20 * (gI s22 3)) + a1).toNatClampNeg)) fun _ s23 =>
        some ((), s23)
      else
      some ((), s22)
    else
    gb (fR_ValueMachineModel_needs N s19 1 8) fun r24 s24 =>
    if (gI s24 16) = 0 then
      if ((20 * (gI s24 3)) + a1) < 0 ∨ 600 ≤ ((20 * (gI s24 3)) + a1).toNatClampNeg then none else
      if ((20 * (gI s24 3)) + a1) < 0 ∨ 600 ≤ ((20 * (gI s24 3)) + a1).toNatClampNeg then none else
      gb (fR_ValueMachineModel_acc N s24 (gA s24 10 ((20 * (gI s24 3)) + a1).toNatClampNeg) (gA s24 11 ((20 * (gI s24 3)) + a1).toNatClampNeg)) fun _ s25 =>
      some ((), s25)
    else
    some ((), s24)
  else
  if a0 = 7 then
    gb (fR_ValueMachineModel_element N st) fun _ s26 =>
    some ((), s26)
  else
  gb (fR_ValueMachineModel_isAcc N st 5) fun r27 s27 =>
  if r27 = 0 then
    some ((), s27)
  else
  if (gI s27 3) < 0 ∨ 30 ≤ (gI s27 3).toNatClampNeg then none else
  gb (fR_ValueMachineModel_acc N s27 3 (gA s27 9 (gI s27 3).toNatClampNeg)) fun _ s28 =>
  some ((), s28)
def fR_ValueMachineModel_puts (N : Nat) (st : SG) (a0 : Int32) (a1 : Int32) : Option (Unit × SG) :=
  if ((20 * a0) + a1) < 0 ∨ 600 ≤ ((20 * a0) + a1).toNatClampNeg then none else
  if ((20 * a0) + a1) < 0 ∨ 600 ≤ ((20 * a0) + a1).toNatClampNeg then none else
  some ((), (uA (uA st 10 (upd (gA st 10) ((20 * a0) + a1).toNatClampNeg (gI st 2))) 11 (upd (gA st 11) ((20 * a0) + a1).toNatClampNeg (gI st 3))))
def fR_ValueMachineModel_stores (N : Nat) (st : SG) (a0 : Int32) (a1 : Int32) : Option (Unit × SG) :=
  if a0 = 9 then
    if a1 < 0 then
      gb (fR_ValueMachineModel_needs N st 0 3) fun r1 s1 =>
      if r1 = 0 then
        some ((), s1)
      else
      gb (fR_ValueMachineModel_deep N s1 a1) fun r2 s2 =>
      if r2 < 0 ∨ 120 ≤ r2.toNatClampNeg then none else
      gb (fR_ValueMachineModel_deep N (uA s2 2 (upd (gA s2 2) r2.toNatClampNeg (gI s2 2))) a1) fun r3 s3 =>
      if r3 < 0 ∨ 120 ≤ r3.toNatClampNeg then none else
      some ((), (uA s3 3 (upd (gA s3 3) r3.toNatClampNeg (gI s3 3))))
    else
    if (gI st 4) ≤ a1 then
      gb (fR_ValueMachineModel_needs N st 0 3) fun r4 s4 =>
      if r4 = 0 then
        some ((), s4)
      else
      gb (fR_ValueMachineModel_deep N s4 a1) fun r5 s5 =>
      if r5 < 0 ∨ 120 ≤ r5.toNatClampNeg then none else
      gb (fR_ValueMachineModel_deep N (uA s5 2 (upd (gA s5 2) r5.toNatClampNeg (gI s5 2))) a1) fun r6 s6 =>
      if r6 < 0 ∨ 120 ≤ r6.toNatClampNeg then none else
      some ((), (uA s6 3 (upd (gA s6 3) r6.toNatClampNeg (gI s6 3))))
    else
    gb (fR_ValueMachineModel_needs N st 1 3) fun r7 s7 =>
    if r7 = 0 then
      some ((), s7)
    else
    gb (fR_ValueMachineModel_deep N s7 a1) fun r8 s8 =>
    if r8 < 0 ∨ 120 ≤ r8.toNatClampNeg then none else
    gb (fR_ValueMachineModel_deep N (uA s8 2 (upd (gA s8 2) r8.toNatClampNeg (gI s8 2))) a1) fun r9 s9 =>
    if r9 < 0 ∨ 120 ≤ r9.toNatClampNeg then none else
    some ((), (uA s9 3 (upd (gA s9 3) r9.toNatClampNeg (gI s9 3))))
  else
  if a0 = 10 then
    if a1 < 0 then
      gb (fR_ValueMachineModel_needs N st 0 8) fun r10 s10 =>
      if r10 = 0 then
        some ((), s10)
      else
      if a1 < 0 ∨ 8 ≤ a1.toNatClampNeg then none else
      if a1 < 0 ∨ 8 ≤ a1.toNatClampNeg then none else
      some ((), (uA (uA s10 4 (upd (gA s10 4) a1.toNatClampNeg (gI s10 2))) 5 (upd (gA s10 5) a1.toNatClampNeg (gI s10 3))))
    else
    if 8 ≤ a1 then
      gb (fR_ValueMachineModel_needs N st 0 8) fun r11 s11 =>
      if r11 = 0 then
        some ((), s11)
      else
      if a1 < 0 ∨ 8 ≤ a1.toNatClampNeg then none else
      if a1 < 0 ∨ 8 ≤ a1.toNatClampNeg then none else
      some ((), (uA (uA s11 4 (upd (gA s11 4) a1.toNatClampNeg (gI s11 2))) 5 (upd (gA s11 5) a1.toNatClampNeg (gI s11 3))))
    else
    gb (fR_ValueMachineModel_needs N st 1 8) fun r12 s12 =>
    if r12 = 0 then
      some ((), s12)
    else
    if a1 < 0 ∨ 8 ≤ a1.toNatClampNeg then none else
    if a1 < 0 ∨ 8 ≤ a1.toNatClampNeg then none else
    some ((), (uA (uA s12 4 (upd (gA s12 4) a1.toNatClampNeg (gI s12 2))) 5 (upd (gA s12 5) a1.toNatClampNeg (gI s12 3))))
  else
  if a0 = 11 then
    if a1 < 0 then
      gb (fR_ValueMachineModel_needs N st 0 8) fun r13 s13 =>
      gb (fR_ValueMachineModel_has N s13 1) fun r14 s14 =>
      if r14 = 0 then
        if (gI s14 16) = 0 then
          gb (fR_ValueMachineModel_deep N s14 0) fun r15 s15 =>
          if r15 < 0 ∨ 120 ≤ r15.toNatClampNeg then none else
          gb (fR_ValueMachineModel_puts N s15 (gA s15 3 r15.toNatClampNeg) a1) fun _ s16 =>
          some ((), (uI s16 4 ((gI s16 4) - 1)))
        else
        some ((), s14)
      else
      gb (fR_ValueMachineModel_isSort N s14 0 4) fun r17 s17 =>
      if (gI s17 16) = 0 then
        gb (fR_ValueMachineModel_deep N s17 0) fun r18 s18 =>
        if r18 < 0 ∨ 120 ≤ r18.toNatClampNeg then none else
        gb (fR_ValueMachineModel_puts N s18 (gA s18 3 r18.toNatClampNeg) a1) fun _ s19 =>
        some ((), (uI s19 4 ((gI s19 4) - 1)))
      else
      some ((), s17)
    else
    if 16 ≤ a1 then
      gb (fR_ValueMachineModel_needs N st 0 8) fun r20 s20 =>
      gb (fR_ValueMachineModel_has N s20 1) fun r21 s21 =>
      if r21 = 0 then
        if (gI s21 16) = 0 then
          gb (fR_ValueMachineModel_deep N s21 0) fun r22 s22 =>
          if r22 < 0 ∨ 120 ≤ r22.toNatClampNeg then none else
          gb (fR_ValueMachineModel_puts N s22 (gA s22 3 r22.toNatClampNeg) a1) fun _ s23 =>
          some ((), (uI s23 4 ((gI s23 4) - 1)))
        else
        some ((), s21)
      else
      gb (fR_ValueMachineModel_isSort N s21 0 4) fun r24 s24 =>
      if (gI s24 16) = 0 then
        gb (fR_ValueMachineModel_deep N s24 0) fun r25 s25 =>
        if r25 < 0 ∨ 120 ≤ r25.toNatClampNeg then none else
        gb (fR_ValueMachineModel_puts N s25 (gA s25 3 r25.toNatClampNeg) a1) fun _ s26 =>
        some ((), (uI s26 4 ((gI s26 4) - 1)))
      else
      some ((), s24)
    else
    gb (fR_ValueMachineModel_needs N st 1 8) fun r27 s27 =>
    gb (fR_ValueMachineModel_has N s27 1) fun r28 s28 =>
    if r28 = 0 then
      if (gI s28 16) = 0 then
        gb (fR_ValueMachineModel_deep N s28 0) fun r29 s29 =>
        if r29 < 0 ∨ 120 ≤ r29.toNatClampNeg then none else
        gb (fR_ValueMachineModel_puts N s29 (gA s29 3 r29.toNatClampNeg) a1) fun _ s30 =>
        some ((), (uI s30 4 ((gI s30 4) - 1)))
      else
      some ((), s28)
    else
    gb (fR_ValueMachineModel_isSort N s28 0 4) fun r31 s31 =>
    if (gI s31 16) = 0 then
      gb (fR_ValueMachineModel_deep N s31 0) fun r32 s32 =>
      if r32 < 0 ∨ 120 ≤ r32.toNatClampNeg then none else
      gb (fR_ValueMachineModel_puts N s32 (gA s32 3 r32.toNatClampNeg) a1) fun _ s33 =>
      some ((), (uI s33 4 ((gI s33 4) - 1)))
    else
    some ((), s31)
  else
  if a0 = 12 then
    gb (fR_ValueMachineModel_has N st 2) fun r34 s34 =>
    if r34 = 0 then
      some ((), s34)
    else
    gb (fR_ValueMachineModel_isSort N s34 1 5) fun r35 s35 =>
    if r35 = 0 then
      gb (fR_ValueMachineModel_isSort N s35 0 3) fun r67 s67 =>
      if r67 = 0 then
        if ((1 : Int32) ||| 1) = 0 then
          gb (fR_ValueMachineModel_deep N s67 0) fun r83 s83 =>
          if r83 < 0 ∨ 120 ≤ r83.toNatClampNeg then none else
          if (gA s83 3 r83.toNatClampNeg) < 0 then
            gb (fR_ValueMachineModel_needs N s83 0 2) fun r84 s84 =>
            if r84 = 0 then
              some ((), s84)
            else
            gb (fR_ValueMachineModel_deep N s84 1) fun r85 s85 =>
            if r85 < 0 ∨ 120 ≤ r85.toNatClampNeg then none else
            gb (fR_ValueMachineModel_deep N s85 0) fun r86 s86 =>
            if r86 < 0 ∨ 120 ≤ r86.toNatClampNeg then none else
            gb (fR_ValueMachineModel_puts N s86 (gA s85 3 r85.toNatClampNeg) (gA s86 3 r86.toNatClampNeg)) fun _ s87 =>
            some ((), (uI s87 4 ((gI s87 4) - 2)))
          else
          gb (fR_ValueMachineModel_deep N s83 0) fun r88 s88 =>
          if r88 < 0 ∨ 120 ≤ r88.toNatClampNeg then none else
          gb (fR_ValueMachineModel_deep N s88 1) fun r89 s89 =>
          if r89 < 0 ∨ 120 ≤ r89.toNatClampNeg then none else
          if (gA s89 3 r89.toNatClampNeg) < 0 ∨ 30 ≤ (gA s89 3 r89.toNatClampNeg).toNatClampNeg then none else
          if (gA s89 9 (gA s89 3 r89.toNatClampNeg).toNatClampNeg) ≤ (gA s88 3 r88.toNatClampNeg) then
            gb (fR_ValueMachineModel_needs N s89 0 2) fun r90 s90 =>
            if r90 = 0 then
              some ((), s90)
            else
            gb (fR_ValueMachineModel_deep N s90 1) fun r91 s91 =>
            if r91 < 0 ∨ 120 ≤ r91.toNatClampNeg then none else
            gb (fR_ValueMachineModel_deep N s91 0) fun r92 s92 =>
            if r92 < 0 ∨ 120 ≤ r92.toNatClampNeg then none else
            gb (fR_ValueMachineModel_puts N s92 (gA s91 3 r91.toNatClampNeg) (gA s92 3 r92.toNatClampNeg)) fun _ s93 =>
            some ((), (uI s93 4 ((gI s93 4) - 2)))
          else
          gb (fR_ValueMachineModel_needs N s89 1 2) fun r94 s94 =>
          if r94 = 0 then
            some ((), s94)
          else
          gb (fR_ValueMachineModel_deep N s94 1) fun r95 s95 =>
          if r95 < 0 ∨ 120 ≤ r95.toNatClampNeg then none else
          gb (fR_ValueMachineModel_deep N s95 0) fun r96 s96 =>
          if r96 < 0 ∨ 120 ≤ r96.toNatClampNeg then none else
          gb (fR_ValueMachineModel_puts N s96 (gA s95 3 r95.toNatClampNeg) (gA s96 3 r96.toNatClampNeg)) fun _ s97 =>
          some ((), (uI s97 4 ((gI s97 4) - 2)))
        else
        some ((), s67)
      else
      if ((1 : Int32) ||| 0) = 0 then
        gb (fR_ValueMachineModel_deep N s67 0) fun r68 s68 =>
        if r68 < 0 ∨ 120 ≤ r68.toNatClampNeg then none else
        if (gA s68 3 r68.toNatClampNeg) < 0 then
          gb (fR_ValueMachineModel_needs N s68 0 2) fun r69 s69 =>
          if r69 = 0 then
            some ((), s69)
          else
          gb (fR_ValueMachineModel_deep N s69 1) fun r70 s70 =>
          if r70 < 0 ∨ 120 ≤ r70.toNatClampNeg then none else
          gb (fR_ValueMachineModel_deep N s70 0) fun r71 s71 =>
          if r71 < 0 ∨ 120 ≤ r71.toNatClampNeg then none else
          gb (fR_ValueMachineModel_puts N s71 (gA s70 3 r70.toNatClampNeg) (gA s71 3 r71.toNatClampNeg)) fun _ s72 =>
          some ((), (uI s72 4 ((gI s72 4) - 2)))
        else
        gb (fR_ValueMachineModel_deep N s68 0) fun r73 s73 =>
        if r73 < 0 ∨ 120 ≤ r73.toNatClampNeg then none else
        gb (fR_ValueMachineModel_deep N s73 1) fun r74 s74 =>
        if r74 < 0 ∨ 120 ≤ r74.toNatClampNeg then none else
        if (gA s74 3 r74.toNatClampNeg) < 0 ∨ 30 ≤ (gA s74 3 r74.toNatClampNeg).toNatClampNeg then none else
        if (gA s74 9 (gA s74 3 r74.toNatClampNeg).toNatClampNeg) ≤ (gA s73 3 r73.toNatClampNeg) then
          gb (fR_ValueMachineModel_needs N s74 0 2) fun r75 s75 =>
          if r75 = 0 then
            some ((), s75)
          else
          gb (fR_ValueMachineModel_deep N s75 1) fun r76 s76 =>
          if r76 < 0 ∨ 120 ≤ r76.toNatClampNeg then none else
          gb (fR_ValueMachineModel_deep N s76 0) fun r77 s77 =>
          if r77 < 0 ∨ 120 ≤ r77.toNatClampNeg then none else
          gb (fR_ValueMachineModel_puts N s77 (gA s76 3 r76.toNatClampNeg) (gA s77 3 r77.toNatClampNeg)) fun _ s78 =>
          some ((), (uI s78 4 ((gI s78 4) - 2)))
        else
        gb (fR_ValueMachineModel_needs N s74 1 2) fun r79 s79 =>
        if r79 = 0 then
          some ((), s79)
        else
        gb (fR_ValueMachineModel_deep N s79 1) fun r80 s80 =>
        if r80 < 0 ∨ 120 ≤ r80.toNatClampNeg then none else
        gb (fR_ValueMachineModel_deep N s80 0) fun r81 s81 =>
        if r81 < 0 ∨ 120 ≤ r81.toNatClampNeg then none else
        gb (fR_ValueMachineModel_puts N s81 (gA s80 3 r80.toNatClampNeg) (gA s81 3 r81.toNatClampNeg)) fun _ s82 =>
        some ((), (uI s82 4 ((gI s82 4) - 2)))
      else
      some ((), s67)
    else
    gb (fR_ValueMachineModel_isSort N s35 0 3) fun r36 s36 =>
    if r36 = 0 then
      if ((0 : Int32) ||| 1) = 0 then
        gb (fR_ValueMachineModel_deep N s36 0) fun r52 s52 =>
        if r52 < 0 ∨ 120 ≤ r52.toNatClampNeg then none else
        if (gA s52 3 r52.toNatClampNeg) < 0 then
          gb (fR_ValueMachineModel_needs N s52 0 2) fun r53 s53 =>
          if r53 = 0 then
            some ((), s53)
          else
          gb (fR_ValueMachineModel_deep N s53 1) fun r54 s54 =>
          if r54 < 0 ∨ 120 ≤ r54.toNatClampNeg then none else
          gb (fR_ValueMachineModel_deep N s54 0) fun r55 s55 =>
          if r55 < 0 ∨ 120 ≤ r55.toNatClampNeg then none else
          gb (fR_ValueMachineModel_puts N s55 (gA s54 3 r54.toNatClampNeg) (gA s55 3 r55.toNatClampNeg)) fun _ s56 =>
          some ((), (uI s56 4 ((gI s56 4) - 2)))
        else
        gb (fR_ValueMachineModel_deep N s52 0) fun r57 s57 =>
        if r57 < 0 ∨ 120 ≤ r57.toNatClampNeg then none else
        gb (fR_ValueMachineModel_deep N s57 1) fun r58 s58 =>
        if r58 < 0 ∨ 120 ≤ r58.toNatClampNeg then none else
        if (gA s58 3 r58.toNatClampNeg) < 0 ∨ 30 ≤ (gA s58 3 r58.toNatClampNeg).toNatClampNeg then none else
        if (gA s58 9 (gA s58 3 r58.toNatClampNeg).toNatClampNeg) ≤ (gA s57 3 r57.toNatClampNeg) then
          gb (fR_ValueMachineModel_needs N s58 0 2) fun r59 s59 =>
          if r59 = 0 then
            some ((), s59)
          else
          gb (fR_ValueMachineModel_deep N s59 1) fun r60 s60 =>
          if r60 < 0 ∨ 120 ≤ r60.toNatClampNeg then none else
          gb (fR_ValueMachineModel_deep N s60 0) fun r61 s61 =>
          if r61 < 0 ∨ 120 ≤ r61.toNatClampNeg then none else
          gb (fR_ValueMachineModel_puts N s61 (gA s60 3 r60.toNatClampNeg) (gA s61 3 r61.toNatClampNeg)) fun _ s62 =>
          some ((), (uI s62 4 ((gI s62 4) - 2)))
        else
        gb (fR_ValueMachineModel_needs N s58 1 2) fun r63 s63 =>
        if r63 = 0 then
          some ((), s63)
        else
        gb (fR_ValueMachineModel_deep N s63 1) fun r64 s64 =>
        if r64 < 0 ∨ 120 ≤ r64.toNatClampNeg then none else
        gb (fR_ValueMachineModel_deep N s64 0) fun r65 s65 =>
        if r65 < 0 ∨ 120 ≤ r65.toNatClampNeg then none else
        gb (fR_ValueMachineModel_puts N s65 (gA s64 3 r64.toNatClampNeg) (gA s65 3 r65.toNatClampNeg)) fun _ s66 =>
        some ((), (uI s66 4 ((gI s66 4) - 2)))
      else
      some ((), s36)
    else
    if ((0 : Int32) ||| 0) = 0 then
      gb (fR_ValueMachineModel_deep N s36 0) fun r37 s37 =>
      if r37 < 0 ∨ 120 ≤ r37.toNatClampNeg then none else
      if (gA s37 3 r37.toNatClampNeg) < 0 then
        gb (fR_ValueMachineModel_needs N s37 0 2) fun r38 s38 =>
        if r38 = 0 then
          some ((), s38)
        else
        gb (fR_ValueMachineModel_deep N s38 1) fun r39 s39 =>
        if r39 < 0 ∨ 120 ≤ r39.toNatClampNeg then none else
        gb (fR_ValueMachineModel_deep N s39 0) fun r40 s40 =>
        if r40 < 0 ∨ 120 ≤ r40.toNatClampNeg then none else
        gb (fR_ValueMachineModel_puts N s40 (gA s39 3 r39.toNatClampNeg) (gA s40 3 r40.toNatClampNeg)) fun _ s41 =>
        some ((), (uI s41 4 ((gI s41 4) - 2)))
      else
      gb (fR_ValueMachineModel_deep N s37 0) fun r42 s42 =>
      if r42 < 0 ∨ 120 ≤ r42.toNatClampNeg then none else
      gb (fR_ValueMachineModel_deep N s42 1) fun r43 s43 =>
      if r43 < 0 ∨ 120 ≤ r43.toNatClampNeg then none else
      if (gA s43 3 r43.toNatClampNeg) < 0 ∨ 30 ≤ (gA s43 3 r43.toNatClampNeg).toNatClampNeg then none else
      if (gA s43 9 (gA s43 3 r43.toNatClampNeg).toNatClampNeg) ≤ (gA s42 3 r42.toNatClampNeg) then
        gb (fR_ValueMachineModel_needs N s43 0 2) fun r44 s44 =>
        if r44 = 0 then
          some ((), s44)
        else
        gb (fR_ValueMachineModel_deep N s44 1) fun r45 s45 =>
        if r45 < 0 ∨ 120 ≤ r45.toNatClampNeg then none else
        gb (fR_ValueMachineModel_deep N s45 0) fun r46 s46 =>
        if r46 < 0 ∨ 120 ≤ r46.toNatClampNeg then none else
        gb (fR_ValueMachineModel_puts N s46 (gA s45 3 r45.toNatClampNeg) (gA s46 3 r46.toNatClampNeg)) fun _ s47 =>
        some ((), (uI s47 4 ((gI s47 4) - 2)))
      else
      gb (fR_ValueMachineModel_needs N s43 1 2) fun r48 s48 =>
      if r48 = 0 then
        some ((), s48)
      else
      gb (fR_ValueMachineModel_deep N s48 1) fun r49 s49 =>
      if r49 < 0 ∨ 120 ≤ r49.toNatClampNeg then none else
      gb (fR_ValueMachineModel_deep N s49 0) fun r50 s50 =>
      if r50 < 0 ∨ 120 ≤ r50.toNatClampNeg then none else
      gb (fR_ValueMachineModel_puts N s50 (gA s49 3 r49.toNatClampNeg) (gA s50 3 r50.toNatClampNeg)) fun _ s51 =>
      some ((), (uI s51 4 ((gI s51 4) - 2)))
    else
    some ((), s36)
  else
  if a0 = 13 then
    if 120 ≤ (gI st 4) then
      gb (fR_ValueMachineModel_needs N st 0 4) fun r98 s98 =>
      if r98 = 0 then
        some ((), s98)
      else
      if (gI s98 4) < 0 ∨ 120 ≤ (gI s98 4).toNatClampNeg then none else
      if (gI s98 4) < 0 ∨ 120 ≤ (gI s98 4).toNatClampNeg then none else
      some ((), (uI (uA (uA s98 2 (upd (gA s98 2) (gI s98 4).toNatClampNeg (gI s98 2))) 3 (upd (gA s98 3) (gI s98 4).toNatClampNeg (gI s98 3))) 4 ((gI s98 4) + 1)))
    else
    gb (fR_ValueMachineModel_needs N st 1 4) fun r99 s99 =>
    if r99 = 0 then
      some ((), s99)
    else
    if (gI s99 4) < 0 ∨ 120 ≤ (gI s99 4).toNatClampNeg then none else
    if (gI s99 4) < 0 ∨ 120 ≤ (gI s99 4).toNatClampNeg then none else
    some ((), (uI (uA (uA s99 2 (upd (gA s99 2) (gI s99 4).toNatClampNeg (gI s99 2))) 3 (upd (gA s99 3) (gI s99 4).toNatClampNeg (gI s99 3))) 4 ((gI s99 4) + 1)))
  else
  gb (fR_ValueMachineModel_has N st a1) fun r100 s100 =>
  if r100 = 0 then
    some ((), s100)
  else
  some ((), (uI s100 4 ((gI s100 4) - a1)))
def fR_ValueMachineModel_reckons (N : Nat) (st : SG) (a0 : Int32) : Option (Unit × SG) :=
  gb (fR_ValueMachineModel_has N st 1) fun r1 s1 =>
  if r1 = 0 then
    some ((), s1)
  else
  gb (fR_ValueMachineModel_deep N s1 0) fun r2 s2 =>
  if r2 < 0 ∨ 120 ≤ r2.toNatClampNeg then none else
  gb (fR_ValueMachineModel_deep N s2 0) fun r3 s3 =>
  if r3 < 0 ∨ 120 ≤ r3.toNatClampNeg then none else
  if a0 = 18 then
    gb (fR_ValueMachineModel_same N s3 (gA s2 2 r2.toNatClampNeg) (gA s3 3 r3.toNatClampNeg) (gI s3 2) (gI s3 3)) fun r127 s127 =>
    gb (fR_ValueMachineModel_truth N s127 r127) fun _ s128 =>
    some ((), (uI s128 4 ((gI s128 4) - 1)))
  else
  gb (fR_ValueMachineModel_isSort N s3 0 3) fun r4 s4 =>
  if r4 = 0 then
    gb (fR_ValueMachineModel_isAcc N s4 3) fun r66 s66 =>
    if r66 = 0 then
      if ((1 : Int32) ||| 1) = 0 then
        if a0 < 23 then
          gb (fR_ValueMachineModel_needs N s66 1 5) fun r97 s97 =>
          if r97 = 0 then
            some ((), s97)
          else
          if a0 = 19 then
            if (gI s3 3) ≤ (gA s3 3 r3.toNatClampNeg) then
              gb (fR_ValueMachineModel_truth N (uI s97 4 ((gI s97 4) - 1)) 0) fun _ s98 =>
              some ((), s98)
            else
            gb (fR_ValueMachineModel_truth N (uI s97 4 ((gI s97 4) - 1)) 1) fun _ s99 =>
            some ((), s99)
          else
          if a0 = 20 then
            gb (fR_ValueMachineModel_acc N (uI s97 4 ((gI s97 4) - 1)) 3 ((gA s3 3 r3.toNatClampNeg) + (gI s3 3))) fun _ s100 =>
            some ((), s100)
          else
          if a0 = 21 then
            gb (fR_ValueMachineModel_acc N (uI s97 4 ((gI s97 4) - 1)) 3 ((gA s3 3 r3.toNatClampNeg) - (gI s3 3))) fun _ s101 =>
            some ((), s101)
          else
          if a0 = 22 then
            gb (fR_ValueMachineModel_acc N (uI s97 4 ((gI s97 4) - 1)) 3 ((gA s3 3 r3.toNatClampNeg) * (gI s3 3))) fun _ s102 =>
            some ((), s102)
          else
          if a0 = 23 then
            if (gI s3 3) = (-1) then
              gb (fR_ValueMachineModel_acc N (uI s97 4 ((gI s97 4) - 1)) 3 (-(gA s3 3 r3.toNatClampNeg))) fun _ s104 =>
              some ((), s104)
            else
            if (gI s3 3) = 0 then none else
            gb (fR_ValueMachineModel_acc N (uI s97 4 ((gI s97 4) - 1)) 3 ((gA s3 3 r3.toNatClampNeg) / (gI s3 3))) fun _ s103 =>
            some ((), s103)
          else
          if (gI s3 3) = (-1) then
            gb (fR_ValueMachineModel_acc N (uI s97 4 ((gI s97 4) - 1)) 3 0) fun _ s106 =>
            some ((), s106)
          else
          if (gI s3 3) = 0 then none else
          gb (fR_ValueMachineModel_acc N (uI s97 4 ((gI s97 4) - 1)) 3 ((gA s3 3 r3.toNatClampNeg) - (gA s3 3 r3.toNatClampNeg) / (gI s3 3) * (gI s3 3))) fun _ s105 =>
          some ((), s105)
        else
        if (gI s3 3) = 0 then
          gb (fR_ValueMachineModel_needs N s66 0 5) fun r107 s107 =>
          if r107 = 0 then
            some ((), s107)
          else
          if a0 = 19 then
            if (gI s3 3) ≤ (gA s3 3 r3.toNatClampNeg) then
              gb (fR_ValueMachineModel_truth N (uI s107 4 ((gI s107 4) - 1)) 0) fun _ s108 =>
              some ((), s108)
            else
            gb (fR_ValueMachineModel_truth N (uI s107 4 ((gI s107 4) - 1)) 1) fun _ s109 =>
            some ((), s109)
          else
          if a0 = 20 then
            gb (fR_ValueMachineModel_acc N (uI s107 4 ((gI s107 4) - 1)) 3 ((gA s3 3 r3.toNatClampNeg) + (gI s3 3))) fun _ s110 =>
            some ((), s110)
          else
          if a0 = 21 then
            gb (fR_ValueMachineModel_acc N (uI s107 4 ((gI s107 4) - 1)) 3 ((gA s3 3 r3.toNatClampNeg) - (gI s3 3))) fun _ s111 =>
            some ((), s111)
          else
          if a0 = 22 then
            gb (fR_ValueMachineModel_acc N (uI s107 4 ((gI s107 4) - 1)) 3 ((gA s3 3 r3.toNatClampNeg) * (gI s3 3))) fun _ s112 =>
            some ((), s112)
          else
          if a0 = 23 then
            if (gI s3 3) = (-1) then
              gb (fR_ValueMachineModel_acc N (uI s107 4 ((gI s107 4) - 1)) 3 (-(gA s3 3 r3.toNatClampNeg))) fun _ s114 =>
              some ((), s114)
            else
            if (gI s3 3) = 0 then none else
            gb (fR_ValueMachineModel_acc N (uI s107 4 ((gI s107 4) - 1)) 3 ((gA s3 3 r3.toNatClampNeg) / (gI s3 3))) fun _ s113 =>
            some ((), s113)
          else
          if (gI s3 3) = (-1) then
            gb (fR_ValueMachineModel_acc N (uI s107 4 ((gI s107 4) - 1)) 3 0) fun _ s116 =>
            some ((), s116)
          else
          if (gI s3 3) = 0 then none else
          gb (fR_ValueMachineModel_acc N (uI s107 4 ((gI s107 4) - 1)) 3 ((gA s3 3 r3.toNatClampNeg) - (gA s3 3 r3.toNatClampNeg) / (gI s3 3) * (gI s3 3))) fun _ s115 =>
          some ((), s115)
        else
        gb (fR_ValueMachineModel_needs N s66 1 5) fun r117 s117 =>
        if r117 = 0 then
          some ((), s117)
        else
        if a0 = 19 then
          if (gI s3 3) ≤ (gA s3 3 r3.toNatClampNeg) then
            gb (fR_ValueMachineModel_truth N (uI s117 4 ((gI s117 4) - 1)) 0) fun _ s118 =>
            some ((), s118)
          else
          gb (fR_ValueMachineModel_truth N (uI s117 4 ((gI s117 4) - 1)) 1) fun _ s119 =>
          some ((), s119)
        else
        if a0 = 20 then
          gb (fR_ValueMachineModel_acc N (uI s117 4 ((gI s117 4) - 1)) 3 ((gA s3 3 r3.toNatClampNeg) + (gI s3 3))) fun _ s120 =>
          some ((), s120)
        else
        if a0 = 21 then
          gb (fR_ValueMachineModel_acc N (uI s117 4 ((gI s117 4) - 1)) 3 ((gA s3 3 r3.toNatClampNeg) - (gI s3 3))) fun _ s121 =>
          some ((), s121)
        else
        if a0 = 22 then
          gb (fR_ValueMachineModel_acc N (uI s117 4 ((gI s117 4) - 1)) 3 ((gA s3 3 r3.toNatClampNeg) * (gI s3 3))) fun _ s122 =>
          some ((), s122)
        else
        if a0 = 23 then
          if (gI s3 3) = (-1) then
            gb (fR_ValueMachineModel_acc N (uI s117 4 ((gI s117 4) - 1)) 3 (-(gA s3 3 r3.toNatClampNeg))) fun _ s124 =>
            some ((), s124)
          else
          if (gI s3 3) = 0 then none else
          gb (fR_ValueMachineModel_acc N (uI s117 4 ((gI s117 4) - 1)) 3 ((gA s3 3 r3.toNatClampNeg) / (gI s3 3))) fun _ s123 =>
          some ((), s123)
        else
        if (gI s3 3) = (-1) then
          gb (fR_ValueMachineModel_acc N (uI s117 4 ((gI s117 4) - 1)) 3 0) fun _ s126 =>
          some ((), s126)
        else
        if (gI s3 3) = 0 then none else
        gb (fR_ValueMachineModel_acc N (uI s117 4 ((gI s117 4) - 1)) 3 ((gA s3 3 r3.toNatClampNeg) - (gA s3 3 r3.toNatClampNeg) / (gI s3 3) * (gI s3 3))) fun _ s125 =>
        some ((), s125)
      else
      some ((), s66)
    else
    if ((1 : Int32) ||| 0) = 0 then
      if a0 < 23 then
        gb (fR_ValueMachineModel_needs N s66 1 5) fun r67 s67 =>
        if r67 = 0 then
          some ((), s67)
        else
        if a0 = 19 then
          if (gI s3 3) ≤ (gA s3 3 r3.toNatClampNeg) then
            gb (fR_ValueMachineModel_truth N (uI s67 4 ((gI s67 4) - 1)) 0) fun _ s68 =>
            some ((), s68)
          else
          gb (fR_ValueMachineModel_truth N (uI s67 4 ((gI s67 4) - 1)) 1) fun _ s69 =>
          some ((), s69)
        else
        if a0 = 20 then
          gb (fR_ValueMachineModel_acc N (uI s67 4 ((gI s67 4) - 1)) 3 ((gA s3 3 r3.toNatClampNeg) + (gI s3 3))) fun _ s70 =>
          some ((), s70)
        else
        if a0 = 21 then
          gb (fR_ValueMachineModel_acc N (uI s67 4 ((gI s67 4) - 1)) 3 ((gA s3 3 r3.toNatClampNeg) - (gI s3 3))) fun _ s71 =>
          some ((), s71)
        else
        if a0 = 22 then
          gb (fR_ValueMachineModel_acc N (uI s67 4 ((gI s67 4) - 1)) 3 ((gA s3 3 r3.toNatClampNeg) * (gI s3 3))) fun _ s72 =>
          some ((), s72)
        else
        if a0 = 23 then
          if (gI s3 3) = (-1) then
            gb (fR_ValueMachineModel_acc N (uI s67 4 ((gI s67 4) - 1)) 3 (-(gA s3 3 r3.toNatClampNeg))) fun _ s74 =>
            some ((), s74)
          else
          if (gI s3 3) = 0 then none else
          gb (fR_ValueMachineModel_acc N (uI s67 4 ((gI s67 4) - 1)) 3 ((gA s3 3 r3.toNatClampNeg) / (gI s3 3))) fun _ s73 =>
          some ((), s73)
        else
        if (gI s3 3) = (-1) then
          gb (fR_ValueMachineModel_acc N (uI s67 4 ((gI s67 4) - 1)) 3 0) fun _ s76 =>
          some ((), s76)
        else
        if (gI s3 3) = 0 then none else
        gb (fR_ValueMachineModel_acc N (uI s67 4 ((gI s67 4) - 1)) 3 ((gA s3 3 r3.toNatClampNeg) - (gA s3 3 r3.toNatClampNeg) / (gI s3 3) * (gI s3 3))) fun _ s75 =>
        some ((), s75)
      else
      if (gI s3 3) = 0 then
        gb (fR_ValueMachineModel_needs N s66 0 5) fun r77 s77 =>
        if r77 = 0 then
          some ((), s77)
        else
        if a0 = 19 then
          if (gI s3 3) ≤ (gA s3 3 r3.toNatClampNeg) then
            gb (fR_ValueMachineModel_truth N (uI s77 4 ((gI s77 4) - 1)) 0) fun _ s78 =>
            some ((), s78)
          else
          gb (fR_ValueMachineModel_truth N (uI s77 4 ((gI s77 4) - 1)) 1) fun _ s79 =>
          some ((), s79)
        else
        if a0 = 20 then
          gb (fR_ValueMachineModel_acc N (uI s77 4 ((gI s77 4) - 1)) 3 ((gA s3 3 r3.toNatClampNeg) + (gI s3 3))) fun _ s80 =>
          some ((), s80)
        else
        if a0 = 21 then
          gb (fR_ValueMachineModel_acc N (uI s77 4 ((gI s77 4) - 1)) 3 ((gA s3 3 r3.toNatClampNeg) - (gI s3 3))) fun _ s81 =>
          some ((), s81)
        else
        if a0 = 22 then
          gb (fR_ValueMachineModel_acc N (uI s77 4 ((gI s77 4) - 1)) 3 ((gA s3 3 r3.toNatClampNeg) * (gI s3 3))) fun _ s82 =>
          some ((), s82)
        else
        if a0 = 23 then
          if (gI s3 3) = (-1) then
            gb (fR_ValueMachineModel_acc N (uI s77 4 ((gI s77 4) - 1)) 3 (-(gA s3 3 r3.toNatClampNeg))) fun _ s84 =>
            some ((), s84)
          else
          if (gI s3 3) = 0 then none else
          gb (fR_ValueMachineModel_acc N (uI s77 4 ((gI s77 4) - 1)) 3 ((gA s3 3 r3.toNatClampNeg) / (gI s3 3))) fun _ s83 =>
          some ((), s83)
        else
        if (gI s3 3) = (-1) then
          gb (fR_ValueMachineModel_acc N (uI s77 4 ((gI s77 4) - 1)) 3 0) fun _ s86 =>
          some ((), s86)
        else
        if (gI s3 3) = 0 then none else
        gb (fR_ValueMachineModel_acc N (uI s77 4 ((gI s77 4) - 1)) 3 ((gA s3 3 r3.toNatClampNeg) - (gA s3 3 r3.toNatClampNeg) / (gI s3 3) * (gI s3 3))) fun _ s85 =>
        some ((), s85)
      else
      gb (fR_ValueMachineModel_needs N s66 1 5) fun r87 s87 =>
      if r87 = 0 then
        some ((), s87)
      else
      if a0 = 19 then
        if (gI s3 3) ≤ (gA s3 3 r3.toNatClampNeg) then
          gb (fR_ValueMachineModel_truth N (uI s87 4 ((gI s87 4) - 1)) 0) fun _ s88 =>
          some ((), s88)
        else
        gb (fR_ValueMachineModel_truth N (uI s87 4 ((gI s87 4) - 1)) 1) fun _ s89 =>
        some ((), s89)
      else
      if a0 = 20 then
        gb (fR_ValueMachineModel_acc N (uI s87 4 ((gI s87 4) - 1)) 3 ((gA s3 3 r3.toNatClampNeg) + (gI s3 3))) fun _ s90 =>
        some ((), s90)
      else
      if a0 = 21 then
        gb (fR_ValueMachineModel_acc N (uI s87 4 ((gI s87 4) - 1)) 3 ((gA s3 3 r3.toNatClampNeg) - (gI s3 3))) fun _ s91 =>
        some ((), s91)
      else
      if a0 = 22 then
        gb (fR_ValueMachineModel_acc N (uI s87 4 ((gI s87 4) - 1)) 3 ((gA s3 3 r3.toNatClampNeg) * (gI s3 3))) fun _ s92 =>
        some ((), s92)
      else
      if a0 = 23 then
        if (gI s3 3) = (-1) then
          gb (fR_ValueMachineModel_acc N (uI s87 4 ((gI s87 4) - 1)) 3 (-(gA s3 3 r3.toNatClampNeg))) fun _ s94 =>
          some ((), s94)
        else
        if (gI s3 3) = 0 then none else
        gb (fR_ValueMachineModel_acc N (uI s87 4 ((gI s87 4) - 1)) 3 ((gA s3 3 r3.toNatClampNeg) / (gI s3 3))) fun _ s93 =>
        some ((), s93)
      else
      if (gI s3 3) = (-1) then
        gb (fR_ValueMachineModel_acc N (uI s87 4 ((gI s87 4) - 1)) 3 0) fun _ s96 =>
        some ((), s96)
      else
      if (gI s3 3) = 0 then none else
      gb (fR_ValueMachineModel_acc N (uI s87 4 ((gI s87 4) - 1)) 3 ((gA s3 3 r3.toNatClampNeg) - (gA s3 3 r3.toNatClampNeg) / (gI s3 3) * (gI s3 3))) fun _ s95 =>
      some ((), s95)
    else
    some ((), s66)
  else
  gb (fR_ValueMachineModel_isAcc N s4 3) fun r5 s5 =>
  if r5 = 0 then
    if ((0 : Int32) ||| 1) = 0 then
      if a0 < 23 then
        gb (fR_ValueMachineModel_needs N s5 1 5) fun r36 s36 =>
        if r36 = 0 then
          some ((), s36)
        else
        if a0 = 19 then
          if (gI s3 3) ≤ (gA s3 3 r3.toNatClampNeg) then
            gb (fR_ValueMachineModel_truth N (uI s36 4 ((gI s36 4) - 1)) 0) fun _ s37 =>
            some ((), s37)
          else
          gb (fR_ValueMachineModel_truth N (uI s36 4 ((gI s36 4) - 1)) 1) fun _ s38 =>
          some ((), s38)
        else
        if a0 = 20 then
          gb (fR_ValueMachineModel_acc N (uI s36 4 ((gI s36 4) - 1)) 3 ((gA s3 3 r3.toNatClampNeg) + (gI s3 3))) fun _ s39 =>
          some ((), s39)
        else
        if a0 = 21 then
          gb (fR_ValueMachineModel_acc N (uI s36 4 ((gI s36 4) - 1)) 3 ((gA s3 3 r3.toNatClampNeg) - (gI s3 3))) fun _ s40 =>
          some ((), s40)
        else
        if a0 = 22 then
          gb (fR_ValueMachineModel_acc N (uI s36 4 ((gI s36 4) - 1)) 3 ((gA s3 3 r3.toNatClampNeg) * (gI s3 3))) fun _ s41 =>
          some ((), s41)
        else
        if a0 = 23 then
          if (gI s3 3) = (-1) then
            gb (fR_ValueMachineModel_acc N (uI s36 4 ((gI s36 4) - 1)) 3 (-(gA s3 3 r3.toNatClampNeg))) fun _ s43 =>
            some ((), s43)
          else
          if (gI s3 3) = 0 then none else
          gb (fR_ValueMachineModel_acc N (uI s36 4 ((gI s36 4) - 1)) 3 ((gA s3 3 r3.toNatClampNeg) / (gI s3 3))) fun _ s42 =>
          some ((), s42)
        else
        if (gI s3 3) = (-1) then
          gb (fR_ValueMachineModel_acc N (uI s36 4 ((gI s36 4) - 1)) 3 0) fun _ s45 =>
          some ((), s45)
        else
        if (gI s3 3) = 0 then none else
        gb (fR_ValueMachineModel_acc N (uI s36 4 ((gI s36 4) - 1)) 3 ((gA s3 3 r3.toNatClampNeg) - (gA s3 3 r3.toNatClampNeg) / (gI s3 3) * (gI s3 3))) fun _ s44 =>
        some ((), s44)
      else
      if (gI s3 3) = 0 then
        gb (fR_ValueMachineModel_needs N s5 0 5) fun r46 s46 =>
        if r46 = 0 then
          some ((), s46)
        else
        if a0 = 19 then
          if (gI s3 3) ≤ (gA s3 3 r3.toNatClampNeg) then
            gb (fR_ValueMachineModel_truth N (uI s46 4 ((gI s46 4) - 1)) 0) fun _ s47 =>
            some ((), s47)
          else
          gb (fR_ValueMachineModel_truth N (uI s46 4 ((gI s46 4) - 1)) 1) fun _ s48 =>
          some ((), s48)
        else
        if a0 = 20 then
          gb (fR_ValueMachineModel_acc N (uI s46 4 ((gI s46 4) - 1)) 3 ((gA s3 3 r3.toNatClampNeg) + (gI s3 3))) fun _ s49 =>
          some ((), s49)
        else
        if a0 = 21 then
          gb (fR_ValueMachineModel_acc N (uI s46 4 ((gI s46 4) - 1)) 3 ((gA s3 3 r3.toNatClampNeg) - (gI s3 3))) fun _ s50 =>
          some ((), s50)
        else
        if a0 = 22 then
          gb (fR_ValueMachineModel_acc N (uI s46 4 ((gI s46 4) - 1)) 3 ((gA s3 3 r3.toNatClampNeg) * (gI s3 3))) fun _ s51 =>
          some ((), s51)
        else
        if a0 = 23 then
          if (gI s3 3) = (-1) then
            gb (fR_ValueMachineModel_acc N (uI s46 4 ((gI s46 4) - 1)) 3 (-(gA s3 3 r3.toNatClampNeg))) fun _ s53 =>
            some ((), s53)
          else
          if (gI s3 3) = 0 then none else
          gb (fR_ValueMachineModel_acc N (uI s46 4 ((gI s46 4) - 1)) 3 ((gA s3 3 r3.toNatClampNeg) / (gI s3 3))) fun _ s52 =>
          some ((), s52)
        else
        if (gI s3 3) = (-1) then
          gb (fR_ValueMachineModel_acc N (uI s46 4 ((gI s46 4) - 1)) 3 0) fun _ s55 =>
          some ((), s55)
        else
        if (gI s3 3) = 0 then none else
        gb (fR_ValueMachineModel_acc N (uI s46 4 ((gI s46 4) - 1)) 3 ((gA s3 3 r3.toNatClampNeg) - (gA s3 3 r3.toNatClampNeg) / (gI s3 3) * (gI s3 3))) fun _ s54 =>
        some ((), s54)
      else
      gb (fR_ValueMachineModel_needs N s5 1 5) fun r56 s56 =>
      if r56 = 0 then
        some ((), s56)
      else
      if a0 = 19 then
        if (gI s3 3) ≤ (gA s3 3 r3.toNatClampNeg) then
          gb (fR_ValueMachineModel_truth N (uI s56 4 ((gI s56 4) - 1)) 0) fun _ s57 =>
          some ((), s57)
        else
        gb (fR_ValueMachineModel_truth N (uI s56 4 ((gI s56 4) - 1)) 1) fun _ s58 =>
        some ((), s58)
      else
      if a0 = 20 then
        gb (fR_ValueMachineModel_acc N (uI s56 4 ((gI s56 4) - 1)) 3 ((gA s3 3 r3.toNatClampNeg) + (gI s3 3))) fun _ s59 =>
        some ((), s59)
      else
      if a0 = 21 then
        gb (fR_ValueMachineModel_acc N (uI s56 4 ((gI s56 4) - 1)) 3 ((gA s3 3 r3.toNatClampNeg) - (gI s3 3))) fun _ s60 =>
        some ((), s60)
      else
      if a0 = 22 then
        gb (fR_ValueMachineModel_acc N (uI s56 4 ((gI s56 4) - 1)) 3 ((gA s3 3 r3.toNatClampNeg) * (gI s3 3))) fun _ s61 =>
        some ((), s61)
      else
      if a0 = 23 then
        if (gI s3 3) = (-1) then
          gb (fR_ValueMachineModel_acc N (uI s56 4 ((gI s56 4) - 1)) 3 (-(gA s3 3 r3.toNatClampNeg))) fun _ s63 =>
          some ((), s63)
        else
        if (gI s3 3) = 0 then none else
        gb (fR_ValueMachineModel_acc N (uI s56 4 ((gI s56 4) - 1)) 3 ((gA s3 3 r3.toNatClampNeg) / (gI s3 3))) fun _ s62 =>
        some ((), s62)
      else
      if (gI s3 3) = (-1) then
        gb (fR_ValueMachineModel_acc N (uI s56 4 ((gI s56 4) - 1)) 3 0) fun _ s65 =>
        some ((), s65)
      else
      if (gI s3 3) = 0 then none else
      gb (fR_ValueMachineModel_acc N (uI s56 4 ((gI s56 4) - 1)) 3 ((gA s3 3 r3.toNatClampNeg) - (gA s3 3 r3.toNatClampNeg) / (gI s3 3) * (gI s3 3))) fun _ s64 =>
      some ((), s64)
    else
    some ((), s5)
  else
  if ((0 : Int32) ||| 0) = 0 then
    if a0 < 23 then
      gb (fR_ValueMachineModel_needs N s5 1 5) fun r6 s6 =>
      if r6 = 0 then
        some ((), s6)
      else
      if a0 = 19 then
        if (gI s3 3) ≤ (gA s3 3 r3.toNatClampNeg) then
          gb (fR_ValueMachineModel_truth N (uI s6 4 ((gI s6 4) - 1)) 0) fun _ s7 =>
          some ((), s7)
        else
        gb (fR_ValueMachineModel_truth N (uI s6 4 ((gI s6 4) - 1)) 1) fun _ s8 =>
        some ((), s8)
      else
      if a0 = 20 then
        gb (fR_ValueMachineModel_acc N (uI s6 4 ((gI s6 4) - 1)) 3 ((gA s3 3 r3.toNatClampNeg) + (gI s3 3))) fun _ s9 =>
        some ((), s9)
      else
      if a0 = 21 then
        gb (fR_ValueMachineModel_acc N (uI s6 4 ((gI s6 4) - 1)) 3 ((gA s3 3 r3.toNatClampNeg) - (gI s3 3))) fun _ s10 =>
        some ((), s10)
      else
      if a0 = 22 then
        gb (fR_ValueMachineModel_acc N (uI s6 4 ((gI s6 4) - 1)) 3 ((gA s3 3 r3.toNatClampNeg) * (gI s3 3))) fun _ s11 =>
        some ((), s11)
      else
      if a0 = 23 then
        if (gI s3 3) = (-1) then
          gb (fR_ValueMachineModel_acc N (uI s6 4 ((gI s6 4) - 1)) 3 (-(gA s3 3 r3.toNatClampNeg))) fun _ s13 =>
          some ((), s13)
        else
        if (gI s3 3) = 0 then none else
        gb (fR_ValueMachineModel_acc N (uI s6 4 ((gI s6 4) - 1)) 3 ((gA s3 3 r3.toNatClampNeg) / (gI s3 3))) fun _ s12 =>
        some ((), s12)
      else
      if (gI s3 3) = (-1) then
        gb (fR_ValueMachineModel_acc N (uI s6 4 ((gI s6 4) - 1)) 3 0) fun _ s15 =>
        some ((), s15)
      else
      if (gI s3 3) = 0 then none else
      gb (fR_ValueMachineModel_acc N (uI s6 4 ((gI s6 4) - 1)) 3 ((gA s3 3 r3.toNatClampNeg) - (gA s3 3 r3.toNatClampNeg) / (gI s3 3) * (gI s3 3))) fun _ s14 =>
      some ((), s14)
    else
    if (gI s3 3) = 0 then
      gb (fR_ValueMachineModel_needs N s5 0 5) fun r16 s16 =>
      if r16 = 0 then
        some ((), s16)
      else
      if a0 = 19 then
        if (gI s3 3) ≤ (gA s3 3 r3.toNatClampNeg) then
          gb (fR_ValueMachineModel_truth N (uI s16 4 ((gI s16 4) - 1)) 0) fun _ s17 =>
          some ((), s17)
        else
        gb (fR_ValueMachineModel_truth N (uI s16 4 ((gI s16 4) - 1)) 1) fun _ s18 =>
        some ((), s18)
      else
      if a0 = 20 then
        gb (fR_ValueMachineModel_acc N (uI s16 4 ((gI s16 4) - 1)) 3 ((gA s3 3 r3.toNatClampNeg) + (gI s3 3))) fun _ s19 =>
        some ((), s19)
      else
      if a0 = 21 then
        gb (fR_ValueMachineModel_acc N (uI s16 4 ((gI s16 4) - 1)) 3 ((gA s3 3 r3.toNatClampNeg) - (gI s3 3))) fun _ s20 =>
        some ((), s20)
      else
      if a0 = 22 then
        gb (fR_ValueMachineModel_acc N (uI s16 4 ((gI s16 4) - 1)) 3 ((gA s3 3 r3.toNatClampNeg) * (gI s3 3))) fun _ s21 =>
        some ((), s21)
      else
      if a0 = 23 then
        if (gI s3 3) = (-1) then
          gb (fR_ValueMachineModel_acc N (uI s16 4 ((gI s16 4) - 1)) 3 (-(gA s3 3 r3.toNatClampNeg))) fun _ s23 =>
          some ((), s23)
        else
        if (gI s3 3) = 0 then none else
        gb (fR_ValueMachineModel_acc N (uI s16 4 ((gI s16 4) - 1)) 3 ((gA s3 3 r3.toNatClampNeg) / (gI s3 3))) fun _ s22 =>
        some ((), s22)
      else
      if (gI s3 3) = (-1) then
        gb (fR_ValueMachineModel_acc N (uI s16 4 ((gI s16 4) - 1)) 3 0) fun _ s25 =>
        some ((), s25)
      else
      if (gI s3 3) = 0 then none else
      gb (fR_ValueMachineModel_acc N (uI s16 4 ((gI s16 4) - 1)) 3 ((gA s3 3 r3.toNatClampNeg) - (gA s3 3 r3.toNatClampNeg) / (gI s3 3) * (gI s3 3))) fun _ s24 =>
      some ((), s24)
    else
    gb (fR_ValueMachineModel_needs N s5 1 5) fun r26 s26 =>
    if r26 = 0 then
      some ((), s26)
    else
    if a0 = 19 then
      if (gI s3 3) ≤ (gA s3 3 r3.toNatClampNeg) then
        gb (fR_ValueMachineModel_truth N (uI s26 4 ((gI s26 4) - 1)) 0) fun _ s27 =>
        some ((), s27)
      else
      gb (fR_ValueMachineModel_truth N (uI s26 4 ((gI s26 4) - 1)) 1) fun _ s28 =>
      some ((), s28)
    else
    if a0 = 20 then
      gb (fR_ValueMachineModel_acc N (uI s26 4 ((gI s26 4) - 1)) 3 ((gA s3 3 r3.toNatClampNeg) + (gI s3 3))) fun _ s29 =>
      some ((), s29)
    else
    if a0 = 21 then
      gb (fR_ValueMachineModel_acc N (uI s26 4 ((gI s26 4) - 1)) 3 ((gA s3 3 r3.toNatClampNeg) - (gI s3 3))) fun _ s30 =>
      some ((), s30)
    else
    if a0 = 22 then
      gb (fR_ValueMachineModel_acc N (uI s26 4 ((gI s26 4) - 1)) 3 ((gA s3 3 r3.toNatClampNeg) * (gI s3 3))) fun _ s31 =>
      some ((), s31)
    else
    if a0 = 23 then
      if (gI s3 3) = (-1) then
        gb (fR_ValueMachineModel_acc N (uI s26 4 ((gI s26 4) - 1)) 3 (-(gA s3 3 r3.toNatClampNeg))) fun _ s33 =>
        some ((), s33)
      else
      if (gI s3 3) = 0 then none else
      gb (fR_ValueMachineModel_acc N (uI s26 4 ((gI s26 4) - 1)) 3 ((gA s3 3 r3.toNatClampNeg) / (gI s3 3))) fun _ s32 =>
      some ((), s32)
    else
    if (gI s3 3) = (-1) then
      gb (fR_ValueMachineModel_acc N (uI s26 4 ((gI s26 4) - 1)) 3 0) fun _ s35 =>
      some ((), s35)
    else
    if (gI s3 3) = 0 then none else
    gb (fR_ValueMachineModel_acc N (uI s26 4 ((gI s26 4) - 1)) 3 ((gA s3 3 r3.toNatClampNeg) - (gA s3 3 r3.toNatClampNeg) / (gI s3 3) * (gI s3 3))) fun _ s34 =>
    some ((), s34)
  else
  some ((), s5)
def fR_ValueMachineModel_notes (N : Nat) (st : SG) (a0 : Int32) (a1 : Int32) : Option (Unit × SG) :=
  if (gI st 5) < 0 ∨ 40 ≤ (gI st 5).toNatClampNeg then none else
  if (gI st 5) < 0 ∨ 40 ≤ (gI st 5).toNatClampNeg then none else
  some ((), (uI (uA (uA st 6 (upd (gA st 6) (gI st 5).toNatClampNeg a0)) 7 (upd (gA st 7) (gI st 5).toNatClampNeg a1)) 5 ((gI st 5) + 1)))
def fR_ValueMachineModel_calls (N : Nat) (st : SG) (a0 : Int32) : Option (Unit × SG) :=
  gb (fR_ValueMachineModel_has N st a0) fun r1 s1 =>
  gb (fR_ValueMachineModel_isAcc N s1 6) fun r2 s2 =>
  if 40 ≤ (gI s2 5) then
    gb (fR_ValueMachineModel_needs N s2 0 4) fun r3 s3 =>
    if (gI s3 2) = 6 then
      if ((gI s3 3) - (gI s3 3) / 8 * 8) = a0 then
        gb (fR_ValueMachineModel_needs N s3 1 1) fun r7 s7 =>
        if (gI s7 16) = 0 then
          gb (fR_ValueMachineModel_notes N s7 ((gI s7 6) + 1) (-1)) fun _ s8 =>
          some ((), (uI s8 6 ((gI s8 3) / 8)))
        else
        some ((), s7)
      else
      gb (fR_ValueMachineModel_needs N s3 0 1) fun r5 s5 =>
      if (gI s5 16) = 0 then
        gb (fR_ValueMachineModel_notes N s5 ((gI s5 6) + 1) (-1)) fun _ s6 =>
        some ((), (uI s6 6 ((gI s6 3) / 8)))
      else
      some ((), s5)
    else
    if (gI s3 16) = 0 then
      gb (fR_ValueMachineModel_notes N s3 ((gI s3 6) + 1) (-1)) fun _ s4 =>
      some ((), (uI s4 6 ((gI s4 3) / 8)))
    else
    some ((), s3)
  else
  gb (fR_ValueMachineModel_needs N s2 1 4) fun r9 s9 =>
  if (gI s9 2) = 6 then
    if ((gI s9 3) - (gI s9 3) / 8 * 8) = a0 then
      gb (fR_ValueMachineModel_needs N s9 1 1) fun r13 s13 =>
      if (gI s13 16) = 0 then
        gb (fR_ValueMachineModel_notes N s13 ((gI s13 6) + 1) (-1)) fun _ s14 =>
        some ((), (uI s14 6 ((gI s14 3) / 8)))
      else
      some ((), s13)
    else
    gb (fR_ValueMachineModel_needs N s9 0 1) fun r11 s11 =>
    if (gI s11 16) = 0 then
      gb (fR_ValueMachineModel_notes N s11 ((gI s11 6) + 1) (-1)) fun _ s12 =>
      some ((), (uI s12 6 ((gI s12 3) / 8)))
    else
    some ((), s11)
  else
  if (gI s9 16) = 0 then
    gb (fR_ValueMachineModel_notes N s9 ((gI s9 6) + 1) (-1)) fun _ s10 =>
    some ((), (uI s10 6 ((gI s10 3) / 8)))
  else
  some ((), s9)
def fR_ValueMachineModel_goes (N : Nat) (st : SG) (a0 : Int32) (a1 : Int32) : Option (Int32 × SG) :=
  if a0 = 15 then
    gb (fR_ValueMachineModel_isPlace N st a1) fun r1 s1 =>
    if r1 = 0 then
      some (0, s1)
    else
    if a0 = 16 then
      if (gI s1 2) = 2 then
        if a0 = 17 then
          if (gI s1 2) = 2 then
            some (0, s1)
          else
          some (1, (uI s1 6 a1))
        else
        some (1, (uI s1 6 a1))
      else
      some (0, s1)
    else
    if a0 = 17 then
      if (gI s1 2) = 2 then
        some (0, s1)
      else
      some (1, (uI s1 6 a1))
    else
    some (1, (uI s1 6 a1))
  else
  if a0 = 16 then
    gb (fR_ValueMachineModel_isPlace N st a1) fun r2 s2 =>
    if r2 = 0 then
      some (0, s2)
    else
    if a0 = 16 then
      if (gI s2 2) = 2 then
        if a0 = 17 then
          if (gI s2 2) = 2 then
            some (0, s2)
          else
          some (1, (uI s2 6 a1))
        else
        some (1, (uI s2 6 a1))
      else
      some (0, s2)
    else
    if a0 = 17 then
      if (gI s2 2) = 2 then
        some (0, s2)
      else
      some (1, (uI s2 6 a1))
    else
    some (1, (uI s2 6 a1))
  else
  if a0 = 17 then
    gb (fR_ValueMachineModel_isPlace N st a1) fun r3 s3 =>
    if r3 = 0 then
      some (0, s3)
    else
    if a0 = 16 then
      if (gI s3 2) = 2 then
        if a0 = 17 then
          if (gI s3 2) = 2 then
            some (0, s3)
          else
          some (1, (uI s3 6 a1))
        else
        some (1, (uI s3 6 a1))
      else
      some (0, s3)
    else
    if a0 = 17 then
      if (gI s3 2) = 2 then
        some (0, s3)
      else
      some (1, (uI s3 6 a1))
    else
    some (1, (uI s3 6 a1))
  else
  if a0 = 18 then
    if (gI st 5) ≤ 0 then
      gb (fR_ValueMachineModel_needs N st 0 7) fun r4 s4 =>
      if r4 = 0 then
        some (0, s4)
      else
      some (0, (uI s4 5 ((gI s4 5) - 1)))
    else
    if ((gI st 5) - 1) < 0 ∨ 40 ≤ ((gI st 5) - 1).toNatClampNeg then none else
    if (gA st 7 ((gI st 5) - 1).toNatClampNeg) = (-1) then
      gb (fR_ValueMachineModel_needs N st 0 7) fun r5 s5 =>
      if r5 = 0 then
        some (0, s5)
      else
      some (0, (uI s5 5 ((gI s5 5) - 1)))
    else
    gb (fR_ValueMachineModel_needs N st 1 7) fun r6 s6 =>
    if r6 = 0 then
      some (0, s6)
    else
    some (0, (uI s6 5 ((gI s6 5) - 1)))
  else
  if a0 = 19 then
    if (gI st 5) ≤ 0 then
      gb (fR_ValueMachineModel_needs N st 0 7) fun r7 s7 =>
      if r7 = 0 then
        some (0, s7)
      else
      some (0, (uI s7 5 ((gI s7 5) - 1)))
    else
    if ((gI st 5) - 1) < 0 ∨ 40 ≤ ((gI st 5) - 1).toNatClampNeg then none else
    if (gA st 7 ((gI st 5) - 1).toNatClampNeg) = (-1) then
      gb (fR_ValueMachineModel_needs N st 0 7) fun r8 s8 =>
      if r8 = 0 then
        some (0, s8)
      else
      some (0, (uI s8 5 ((gI s8 5) - 1)))
    else
    gb (fR_ValueMachineModel_needs N st 1 7) fun r9 s9 =>
    if r9 = 0 then
      some (0, s9)
    else
    some (0, (uI s9 5 ((gI s9 5) - 1)))
  else
  if a0 = 20 then
    if (gI st 5) ≤ 0 then
      gb (fR_ValueMachineModel_needs N st 0 7) fun r10 s10 =>
      if r10 = 0 then
        some (0, s10)
      else
      some (0, (uI s10 5 ((gI s10 5) - 1)))
    else
    if ((gI st 5) - 1) < 0 ∨ 40 ≤ ((gI st 5) - 1).toNatClampNeg then none else
    if (gA st 7 ((gI st 5) - 1).toNatClampNeg) = (-1) then
      gb (fR_ValueMachineModel_needs N st 0 7) fun r11 s11 =>
      if r11 = 0 then
        some (0, s11)
      else
      some (0, (uI s11 5 ((gI s11 5) - 1)))
    else
    gb (fR_ValueMachineModel_needs N st 1 7) fun r12 s12 =>
    if r12 = 0 then
      some (0, s12)
    else
    some (0, (uI s12 5 ((gI s12 5) - 1)))
  else
  if a0 = 21 then
    if (gI st 5) ≤ 0 then
      gb (fR_ValueMachineModel_needs N st 0 7) fun r13 s13 =>
      if r13 = 0 then
        some (0, s13)
      else
      some (0, (uI s13 5 ((gI s13 5) - 1)))
    else
    if ((gI st 5) - 1) < 0 ∨ 40 ≤ ((gI st 5) - 1).toNatClampNeg then none else
    if (gA st 7 ((gI st 5) - 1).toNatClampNeg) = (-1) then
      gb (fR_ValueMachineModel_needs N st 0 7) fun r14 s14 =>
      if r14 = 0 then
        some (0, s14)
      else
      some (0, (uI s14 5 ((gI s14 5) - 1)))
    else
    gb (fR_ValueMachineModel_needs N st 1 7) fun r15 s15 =>
    if r15 = 0 then
      some (0, s15)
    else
    some (0, (uI s15 5 ((gI s15 5) - 1)))
  else
  if a0 = 22 then
    if (gI st 5) ≤ 0 then
      gb (fR_ValueMachineModel_needs N st 0 7) fun r16 s16 =>
      if r16 = 0 then
        some (0, s16)
      else
      some (0, (uI s16 5 ((gI s16 5) - 1)))
    else
    if ((gI st 5) - 1) < 0 ∨ 40 ≤ ((gI st 5) - 1).toNatClampNeg then none else
    if (gA st 7 ((gI st 5) - 1).toNatClampNeg) = (-1) then
      gb (fR_ValueMachineModel_needs N st 0 7) fun r17 s17 =>
      if r17 = 0 then
        some (0, s17)
      else
      some (0, (uI s17 5 ((gI s17 5) - 1)))
    else
    gb (fR_ValueMachineModel_needs N st 1 7) fun r18 s18 =>
    if r18 = 0 then
      some (0, s18)
    else
    some (0, (uI s18 5 ((gI s18 5) - 1)))
  else
  if a0 = 23 then
    if (gI st 5) ≤ 0 then
      gb (fR_ValueMachineModel_needs N st 0 7) fun r19 s19 =>
      if r19 = 0 then
        some (0, s19)
      else
      some (0, (uI s19 5 ((gI s19 5) - 1)))
    else
    if ((gI st 5) - 1) < 0 ∨ 40 ≤ ((gI st 5) - 1).toNatClampNeg then none else
    if (gA st 7 ((gI st 5) - 1).toNatClampNeg) = (-1) then
      gb (fR_ValueMachineModel_needs N st 0 7) fun r20 s20 =>
      if r20 = 0 then
        some (0, s20)
      else
      some (0, (uI s20 5 ((gI s20 5) - 1)))
    else
    gb (fR_ValueMachineModel_needs N st 1 7) fun r21 s21 =>
    if r21 = 0 then
      some (0, s21)
    else
    some (0, (uI s21 5 ((gI s21 5) - 1)))
  else
  if a0 = 24 then
    if (gI st 5) ≤ 0 then
      gb (fR_ValueMachineModel_needs N st 0 7) fun r22 s22 =>
      if r22 = 0 then
        some (0, s22)
      else
      some (0, (uI s22 5 ((gI s22 5) - 1)))
    else
    if ((gI st 5) - 1) < 0 ∨ 40 ≤ ((gI st 5) - 1).toNatClampNeg then none else
    if (gA st 7 ((gI st 5) - 1).toNatClampNeg) = (-1) then
      gb (fR_ValueMachineModel_needs N st 0 7) fun r23 s23 =>
      if r23 = 0 then
        some (0, s23)
      else
      some (0, (uI s23 5 ((gI s23 5) - 1)))
    else
    gb (fR_ValueMachineModel_needs N st 1 7) fun r24 s24 =>
    if r24 = 0 then
      some (0, s24)
    else
    some (0, (uI s24 5 ((gI s24 5) - 1)))
  else
  if a0 = 25 then
    if (gI st 5) ≤ 0 then
      gb (fR_ValueMachineModel_needs N st 0 7) fun r25 s25 =>
      if r25 = 0 then
        some (0, s25)
      else
      some (0, (uI s25 5 ((gI s25 5) - 1)))
    else
    if ((gI st 5) - 1) < 0 ∨ 40 ≤ ((gI st 5) - 1).toNatClampNeg then none else
    if (gA st 7 ((gI st 5) - 1).toNatClampNeg) = (-1) then
      gb (fR_ValueMachineModel_needs N st 0 7) fun r26 s26 =>
      if r26 = 0 then
        some (0, s26)
      else
      some (0, (uI s26 5 ((gI s26 5) - 1)))
    else
    gb (fR_ValueMachineModel_needs N st 1 7) fun r27 s27 =>
    if r27 = 0 then
      some (0, s27)
    else
    some (0, (uI s27 5 ((gI s27 5) - 1)))
  else
  if a0 = 26 then
    if (gI st 5) ≤ 0 then
      gb (fR_ValueMachineModel_needs N st 0 7) fun r28 s28 =>
      if r28 = 0 then
        some (0, s28)
      else
      some (0, (uI s28 5 ((gI s28 5) - 1)))
    else
    if ((gI st 5) - 1) < 0 ∨ 40 ≤ ((gI st 5) - 1).toNatClampNeg then none else
    if (gA st 7 ((gI st 5) - 1).toNatClampNeg) = (-1) then
      gb (fR_ValueMachineModel_needs N st 0 7) fun r29 s29 =>
      if r29 = 0 then
        some (0, s29)
      else
      some (0, (uI s29 5 ((gI s29 5) - 1)))
    else
    gb (fR_ValueMachineModel_needs N st 1 7) fun r30 s30 =>
    if r30 = 0 then
      some (0, s30)
    else
    some (0, (uI s30 5 ((gI s30 5) - 1)))
  else
  if a0 = 27 then
    if (gI st 5) ≤ 0 then
      gb (fR_ValueMachineModel_needs N st 0 7) fun r31 s31 =>
      if r31 = 0 then
        some (0, s31)
      else
      some (0, (uI s31 5 ((gI s31 5) - 1)))
    else
    if ((gI st 5) - 1) < 0 ∨ 40 ≤ ((gI st 5) - 1).toNatClampNeg then none else
    if (gA st 7 ((gI st 5) - 1).toNatClampNeg) = (-1) then
      gb (fR_ValueMachineModel_needs N st 0 7) fun r32 s32 =>
      if r32 = 0 then
        some (0, s32)
      else
      some (0, (uI s32 5 ((gI s32 5) - 1)))
    else
    gb (fR_ValueMachineModel_needs N st 1 7) fun r33 s33 =>
    if r33 = 0 then
      some (0, s33)
    else
    some (0, (uI s33 5 ((gI s33 5) - 1)))
  else
  if a0 = 28 then
    if (gI st 5) ≤ 0 then
      gb (fR_ValueMachineModel_needs N st 0 7) fun r34 s34 =>
      if r34 = 0 then
        some (0, s34)
      else
      some (0, (uI s34 5 ((gI s34 5) - 1)))
    else
    if ((gI st 5) - 1) < 0 ∨ 40 ≤ ((gI st 5) - 1).toNatClampNeg then none else
    if (gA st 7 ((gI st 5) - 1).toNatClampNeg) = (-1) then
      gb (fR_ValueMachineModel_needs N st 0 7) fun r35 s35 =>
      if r35 = 0 then
        some (0, s35)
      else
      some (0, (uI s35 5 ((gI s35 5) - 1)))
    else
    gb (fR_ValueMachineModel_needs N st 1 7) fun r36 s36 =>
    if r36 = 0 then
      some (0, s36)
    else
    some (0, (uI s36 5 ((gI s36 5) - 1)))
  else
  if a0 = 29 then
    if (gI st 5) ≤ 0 then
      gb (fR_ValueMachineModel_needs N st 0 7) fun r37 s37 =>
      if r37 = 0 then
        some (0, s37)
      else
      some (0, (uI s37 5 ((gI s37 5) - 1)))
    else
    if ((gI st 5) - 1) < 0 ∨ 40 ≤ ((gI st 5) - 1).toNatClampNeg then none else
    if (gA st 7 ((gI st 5) - 1).toNatClampNeg) = (-1) then
      gb (fR_ValueMachineModel_needs N st 0 7) fun r38 s38 =>
      if r38 = 0 then
        some (0, s38)
      else
      some (0, (uI s38 5 ((gI s38 5) - 1)))
    else
    gb (fR_ValueMachineModel_needs N st 1 7) fun r39 s39 =>
    if r39 = 0 then
      some (0, s39)
    else
    some (0, (uI s39 5 ((gI s39 5) - 1)))
  else
  if a0 = 30 then
    gb (fR_ValueMachineModel_calls N st a1) fun _ s40 =>
    if (gI s40 16) = 0 then
      some (1, s40)
    else
    some (0, s40)
  else
  if a0 = 31 then
    gb (fR_ValueMachineModel_has N st a1) fun r41 s41 =>
    if (gI s41 5) ≤ 0 then
      gb (fR_ValueMachineModel_needs N s41 0 7) fun r42 s42 =>
      if (gI s42 16) = 0 then
        if ((gI s42 5) - 1) < 0 ∨ 40 ≤ ((gI s42 5) - 1).toNatClampNeg then none else
        if (gI s42 16) = 0 then
          some (1, (uI (uI (uI s42 4 ((gI s42 4) - a1)) 5 ((gI s42 5) - 1)) 6 (gA s42 6 ((gI s42 5) - 1).toNatClampNeg)))
        else
        some (0, (uI (uI (uI s42 4 ((gI s42 4) - a1)) 5 ((gI s42 5) - 1)) 6 (gA s42 6 ((gI s42 5) - 1).toNatClampNeg)))
      else
      if (gI s42 16) = 0 then
        some (1, s42)
      else
      some (0, s42)
    else
    if ((gI s41 5) - 1) < 0 ∨ 40 ≤ ((gI s41 5) - 1).toNatClampNeg then none else
    if (gA s41 7 ((gI s41 5) - 1).toNatClampNeg) = (-1) then
      gb (fR_ValueMachineModel_needs N s41 1 7) fun r44 s44 =>
      if (gI s44 16) = 0 then
        if ((gI s44 5) - 1) < 0 ∨ 40 ≤ ((gI s44 5) - 1).toNatClampNeg then none else
        if (gI s44 16) = 0 then
          some (1, (uI (uI (uI s44 4 ((gI s44 4) - a1)) 5 ((gI s44 5) - 1)) 6 (gA s44 6 ((gI s44 5) - 1).toNatClampNeg)))
        else
        some (0, (uI (uI (uI s44 4 ((gI s44 4) - a1)) 5 ((gI s44 5) - 1)) 6 (gA s44 6 ((gI s44 5) - 1).toNatClampNeg)))
      else
      if (gI s44 16) = 0 then
        some (1, s44)
      else
      some (0, s44)
    else
    gb (fR_ValueMachineModel_needs N s41 0 7) fun r43 s43 =>
    if (gI s43 16) = 0 then
      if ((gI s43 5) - 1) < 0 ∨ 40 ≤ ((gI s43 5) - 1).toNatClampNeg then none else
      if (gI s43 16) = 0 then
        some (1, (uI (uI (uI s43 4 ((gI s43 4) - a1)) 5 ((gI s43 5) - 1)) 6 (gA s43 6 ((gI s43 5) - 1).toNatClampNeg)))
      else
      some (0, (uI (uI (uI s43 4 ((gI s43 4) - a1)) 5 ((gI s43 5) - 1)) 6 (gA s43 6 ((gI s43 5) - 1).toNatClampNeg)))
    else
    if (gI s43 16) = 0 then
      some (1, s43)
    else
    some (0, s43)
  else
  if a0 = 32 then
    if 40 ≤ (gI st 5) then
      gb (fR_ValueMachineModel_needs N st 0 4) fun r45 s45 =>
      gb (fR_ValueMachineModel_isPlace N s45 a1) fun r46 s46 =>
      if (gI s46 16) = 0 then
        gb (fR_ValueMachineModel_notes N s46 a1 (gI s46 4)) fun _ s47 =>
        some (0, s47)
      else
      some (0, s46)
    else
    gb (fR_ValueMachineModel_needs N st 1 4) fun r48 s48 =>
    gb (fR_ValueMachineModel_isPlace N s48 a1) fun r49 s49 =>
    if (gI s49 16) = 0 then
      gb (fR_ValueMachineModel_notes N s49 a1 (gI s49 4)) fun _ s50 =>
      some (0, s50)
    else
    some (0, s49)
  else
  if (gI st 5) ≤ 0 then
    gb (fR_ValueMachineModel_needs N st 0 7) fun r51 s51 =>
    if r51 = 0 then
      some (0, s51)
    else
    some (0, (uI s51 5 ((gI s51 5) - 1)))
  else
  if ((gI st 5) - 1) < 0 ∨ 40 ≤ ((gI st 5) - 1).toNatClampNeg then none else
  if (gA st 7 ((gI st 5) - 1).toNatClampNeg) = (-1) then
    gb (fR_ValueMachineModel_needs N st 0 7) fun r52 s52 =>
    if r52 = 0 then
      some (0, s52)
    else
    some (0, (uI s52 5 ((gI s52 5) - 1)))
  else
  gb (fR_ValueMachineModel_needs N st 1 7) fun r53 s53 =>
  if r53 = 0 then
    some (0, s53)
  else
  some (0, (uI s53 5 ((gI s53 5) - 1)))
def fR_ValueMachineModel_hasTrap_L4 (N : Nat) : Nat → Int32 → Int32 → SG → Option (Int32 × SG)
  | 0, _, _, _ => none
  | n + 1, v1, v2, st =>
    if (gI st 5) ≤ v2 then
      if ¬ (v1 &&& 1 = v1) then none else
      some (v1, st)
    else
    if v1 = 0 then
      if v2 < 0 ∨ 40 ≤ v2.toNatClampNeg then none else
      if (gA st 7 v2.toNatClampNeg) = (-1) then
        fR_ValueMachineModel_hasTrap_L4 N n 0 (v2 + 1) st
      else
      fR_ValueMachineModel_hasTrap_L4 N n 1 (v2 + 1) st
    else
    fR_ValueMachineModel_hasTrap_L4 N n 1 (v2 + 1) st
def fR_ValueMachineModel_hasTrap (N : Nat) (st : SG) : Option (Int32 × SG) :=
  fR_ValueMachineModel_hasTrap_L4 N N 0 0 st
def fR_ValueMachineModel_falls_L10 (N : Nat) : Nat → Int32 → Int32 → SG → Option (Unit × SG)
  | 0, _, _, _ => none
  | n + 1, v1, v2, st =>
    if (gI st 5) ≤ 0 then
      gb (fR_ValueMachineModel_hasTrap N st) fun r1 s1 =>
      if r1 = 0 then
        some ((), (uI (uI (uI s1 7 1) 8 v1) 9 v2))
      else
      if ((gI s1 5) - 1) < 0 ∨ 40 ≤ ((gI s1 5) - 1).toNatClampNeg then none else
      if (gA s1 7 ((gI s1 5) - 1).toNatClampNeg) ≤ (gI s1 4) then
        if ((gI s1 5) - 1) < 0 ∨ 40 ≤ ((gI s1 5) - 1).toNatClampNeg then none else
        gb (fR_ValueMachineModel_acc N (uI (uI s1 5 ((gI s1 5) - 1)) 4 (gA s1 7 ((gI s1 5) - 1).toNatClampNeg)) v1 v2) fun _ s2 =>
        if (gI s2 5) < 0 ∨ 40 ≤ (gI s2 5).toNatClampNeg then none else
        some ((), (uI s2 6 (gA s2 6 (gI s2 5).toNatClampNeg)))
      else
      gb (fR_ValueMachineModel_acc N (uI (uI s1 5 ((gI s1 5) - 1)) 4 (gI s1 4)) v1 v2) fun _ s3 =>
      if (gI s3 5) < 0 ∨ 40 ≤ (gI s3 5).toNatClampNeg then none else
      some ((), (uI s3 6 (gA s3 6 (gI s3 5).toNatClampNeg)))
    else
    if ((gI st 5) - 1) < 0 ∨ 40 ≤ ((gI st 5) - 1).toNatClampNeg then none else
    if (gA st 7 ((gI st 5) - 1).toNatClampNeg) = (-1) then
      gb (fR_ValueMachineModel_hasTrap N st) fun r7 s7 =>
      if r7 = 0 then
        gb (fR_ValueMachineModel_hasTrap N s7) fun r8 s8 =>
        if r8 = 0 then
          some ((), (uI (uI (uI s8 7 1) 8 v1) 9 v2))
        else
        if ((gI s8 5) - 1) < 0 ∨ 40 ≤ ((gI s8 5) - 1).toNatClampNeg then none else
        if (gA s8 7 ((gI s8 5) - 1).toNatClampNeg) ≤ (gI s8 4) then
          if ((gI s8 5) - 1) < 0 ∨ 40 ≤ ((gI s8 5) - 1).toNatClampNeg then none else
          gb (fR_ValueMachineModel_acc N (uI (uI s8 5 ((gI s8 5) - 1)) 4 (gA s8 7 ((gI s8 5) - 1).toNatClampNeg)) v1 v2) fun _ s9 =>
          if (gI s9 5) < 0 ∨ 40 ≤ (gI s9 5).toNatClampNeg then none else
          some ((), (uI s9 6 (gA s9 6 (gI s9 5).toNatClampNeg)))
        else
        gb (fR_ValueMachineModel_acc N (uI (uI s8 5 ((gI s8 5) - 1)) 4 (gI s8 4)) v1 v2) fun _ s10 =>
        if (gI s10 5) < 0 ∨ 40 ≤ (gI s10 5).toNatClampNeg then none else
        some ((), (uI s10 6 (gA s10 6 (gI s10 5).toNatClampNeg)))
      else
      fR_ValueMachineModel_falls_L10 N n v1 v2 (uI s7 5 ((gI s7 5) - 1))
    else
    gb (fR_ValueMachineModel_hasTrap N st) fun r4 s4 =>
    if r4 = 0 then
      some ((), (uI (uI (uI s4 7 1) 8 v1) 9 v2))
    else
    if ((gI s4 5) - 1) < 0 ∨ 40 ≤ ((gI s4 5) - 1).toNatClampNeg then none else
    if (gA s4 7 ((gI s4 5) - 1).toNatClampNeg) ≤ (gI s4 4) then
      if ((gI s4 5) - 1) < 0 ∨ 40 ≤ ((gI s4 5) - 1).toNatClampNeg then none else
      gb (fR_ValueMachineModel_acc N (uI (uI s4 5 ((gI s4 5) - 1)) 4 (gA s4 7 ((gI s4 5) - 1).toNatClampNeg)) v1 v2) fun _ s5 =>
      if (gI s5 5) < 0 ∨ 40 ≤ (gI s5 5).toNatClampNeg then none else
      some ((), (uI s5 6 (gA s5 6 (gI s5 5).toNatClampNeg)))
    else
    gb (fR_ValueMachineModel_acc N (uI (uI s4 5 ((gI s4 5) - 1)) 4 (gI s4 4)) v1 v2) fun _ s6 =>
    if (gI s6 5) < 0 ∨ 40 ≤ (gI s6 5).toNatClampNeg then none else
    some ((), (uI s6 6 (gA s6 6 (gI s6 5).toNatClampNeg)))
def fR_ValueMachineModel_falls (N : Nat) (st : SG) (a0 : Int32) (a1 : Int32) : Option (Unit × SG) :=
  fR_ValueMachineModel_falls_L10 N N a0 a1 (uI st 15 ((gI st 15) + 1))
def fR_ValueMachineModel_step (N : Nat) (st : SG) : Option (Unit × SG) :=
  if (gI st 6) < 0 ∨ 150 ≤ (gI st 6).toNatClampNeg then none else
  if (gI st 6) < 0 ∨ 150 ≤ (gI st 6).toNatClampNeg then none else
  if (gA st 0 (gI st 6).toNatClampNeg) = 34 then
    gb (fR_ValueMachineModel_falls N (uI (uI st 16 0) 14 ((gI st 14) + 1)) (gI st 2) (gI st 3)) fun _ s59 =>
    some ((), s59)
  else
  if 3 ≤ (gA st 0 (gI st 6).toNatClampNeg) then
    if (gA st 0 (gI st 6).toNatClampNeg) = 3 then
      gb (fR_ValueMachineModel_acc N (uI (uI st 16 0) 14 ((gI st 14) + 1)) 3 (gA st 1 (gI st 6).toNatClampNeg)) fun _ s55 =>
      if (gI s55 16) ≤ 0 then
        some ((), (uI s55 6 ((gI s55 6) + 1)))
      else
      gb (fR_ValueMachineModel_falls N s55 3 (gI s55 16)) fun _ s56 =>
      some ((), s56)
    else
    if 9 ≤ (gA st 0 (gI st 6).toNatClampNeg) then
      if 15 ≤ (gA st 0 (gI st 6).toNatClampNeg) then
        if (gA st 0 (gI st 6).toNatClampNeg) < 18 then
          if (gA st 0 (gI st 6).toNatClampNeg) = 25 then
            if (gI st 2) = 2 then
              gb (fR_ValueMachineModel_truth N (uI (uI st 16 0) 14 ((gI st 14) + 1)) 0) fun _ s21 =>
              if (gI s21 16) ≤ 0 then
                some ((), (uI s21 6 ((gI s21 6) + 1)))
              else
              gb (fR_ValueMachineModel_falls N s21 3 (gI s21 16)) fun _ s22 =>
              some ((), s22)
            else
            gb (fR_ValueMachineModel_truth N (uI (uI st 16 0) 14 ((gI st 14) + 1)) 1) fun _ s23 =>
            if (gI s23 16) ≤ 0 then
              some ((), (uI s23 6 ((gI s23 6) + 1)))
            else
            gb (fR_ValueMachineModel_falls N s23 3 (gI s23 16)) fun _ s24 =>
            some ((), s24)
          else
          if (gA st 0 (gI st 6).toNatClampNeg) = 26 then
            gb (fR_ValueMachineModel_acc N (uI (uI st 16 0) 14 ((gI st 14) + 1)) 3 (gI st 2)) fun _ s19 =>
            if (gI s19 16) ≤ 0 then
              some ((), (uI s19 6 ((gI s19 6) + 1)))
            else
            gb (fR_ValueMachineModel_falls N s19 3 (gI s19 16)) fun _ s20 =>
            some ((), s20)
          else
          if (gA st 0 (gI st 6).toNatClampNeg) = 27 then
            gb (fR_ValueMachineModel_object N (uI (uI st 16 0) 14 ((gI st 14) + 1))) fun _ s17 =>
            if (gI s17 16) ≤ 0 then
              some ((), (uI s17 6 ((gI s17 6) + 1)))
            else
            gb (fR_ValueMachineModel_falls N s17 3 (gI s17 16)) fun _ s18 =>
            some ((), s18)
          else
          if (gA st 0 (gI st 6).toNatClampNeg) = 28 then
            gb (fR_ValueMachineModel_array N (uI (uI st 16 0) 14 ((gI st 14) + 1)) (gA st 1 (gI st 6).toNatClampNeg)) fun _ s15 =>
            if (gI s15 16) ≤ 0 then
              some ((), (uI s15 6 ((gI s15 6) + 1)))
            else
            gb (fR_ValueMachineModel_falls N s15 3 (gI s15 16)) fun _ s16 =>
            some ((), s16)
          else
          if (gA st 0 (gI st 6).toNatClampNeg) = 29 then
            if (gA st 1 (gI st 6).toNatClampNeg) < 0 then
              gb (fR_ValueMachineModel_needs N (uI (uI st 16 0) 14 ((gI st 14) + 1)) 0 8) fun r3 s3 =>
              if r3 = 0 then
                if (gI s3 16) ≤ 0 then
                  some ((), (uI s3 6 ((gI s3 6) + 1)))
                else
                gb (fR_ValueMachineModel_falls N s3 3 (gI s3 16)) fun _ s4 =>
                some ((), s4)
              else
              gb (fR_ValueMachineModel_acc N s3 6 (gA st 1 (gI st 6).toNatClampNeg)) fun _ s5 =>
              if (gI s5 16) ≤ 0 then
                some ((), (uI s5 6 ((gI s5 6) + 1)))
              else
              gb (fR_ValueMachineModel_falls N s5 3 (gI s5 16)) fun _ s6 =>
              some ((), s6)
            else
            if (gI st 1) < ((gA st 1 (gI st 6).toNatClampNeg) / 8) then
              gb (fR_ValueMachineModel_needs N (uI (uI st 16 0) 14 ((gI st 14) + 1)) 0 8) fun r7 s7 =>
              if r7 = 0 then
                if (gI s7 16) ≤ 0 then
                  some ((), (uI s7 6 ((gI s7 6) + 1)))
                else
                gb (fR_ValueMachineModel_falls N s7 3 (gI s7 16)) fun _ s8 =>
                some ((), s8)
              else
              gb (fR_ValueMachineModel_acc N s7 6 (gA st 1 (gI st 6).toNatClampNeg)) fun _ s9 =>
              if (gI s9 16) ≤ 0 then
                some ((), (uI s9 6 ((gI s9 6) + 1)))
              else
              gb (fR_ValueMachineModel_falls N s9 3 (gI s9 16)) fun _ s10 =>
              some ((), s10)
            else
            gb (fR_ValueMachineModel_needs N (uI (uI st 16 0) 14 ((gI st 14) + 1)) 1 8) fun r11 s11 =>
            if r11 = 0 then
              if (gI s11 16) ≤ 0 then
                some ((), (uI s11 6 ((gI s11 6) + 1)))
              else
              gb (fR_ValueMachineModel_falls N s11 3 (gI s11 16)) fun _ s12 =>
              some ((), s12)
            else
            gb (fR_ValueMachineModel_acc N s11 6 (gA st 1 (gI st 6).toNatClampNeg)) fun _ s13 =>
            if (gI s13 16) ≤ 0 then
              some ((), (uI s13 6 ((gI s13 6) + 1)))
            else
            gb (fR_ValueMachineModel_falls N s13 3 (gI s13 16)) fun _ s14 =>
            some ((), s14)
          else
          gb (fR_ValueMachineModel_goes N (uI (uI st 16 0) 14 ((gI st 14) + 1)) (gA st 0 (gI st 6).toNatClampNeg) (gA st 1 (gI st 6).toNatClampNeg)) fun r1 s1 =>
          if (gI s1 16) ≤ 0 then
            if r1 = 0 then
              some ((), (uI s1 6 ((gI s1 6) + 1)))
            else
            some ((), s1)
          else
          gb (fR_ValueMachineModel_falls N s1 3 (gI s1 16)) fun _ s2 =>
          some ((), s2)
        else
        if 25 ≤ (gA st 0 (gI st 6).toNatClampNeg) then
          if (gA st 0 (gI st 6).toNatClampNeg) = 25 then
            if (gI st 2) = 2 then
              gb (fR_ValueMachineModel_truth N (uI (uI st 16 0) 14 ((gI st 14) + 1)) 0) fun _ s45 =>
              if (gI s45 16) ≤ 0 then
                some ((), (uI s45 6 ((gI s45 6) + 1)))
              else
              gb (fR_ValueMachineModel_falls N s45 3 (gI s45 16)) fun _ s46 =>
              some ((), s46)
            else
            gb (fR_ValueMachineModel_truth N (uI (uI st 16 0) 14 ((gI st 14) + 1)) 1) fun _ s47 =>
            if (gI s47 16) ≤ 0 then
              some ((), (uI s47 6 ((gI s47 6) + 1)))
            else
            gb (fR_ValueMachineModel_falls N s47 3 (gI s47 16)) fun _ s48 =>
            some ((), s48)
          else
          if (gA st 0 (gI st 6).toNatClampNeg) = 26 then
            gb (fR_ValueMachineModel_acc N (uI (uI st 16 0) 14 ((gI st 14) + 1)) 3 (gI st 2)) fun _ s43 =>
            if (gI s43 16) ≤ 0 then
              some ((), (uI s43 6 ((gI s43 6) + 1)))
            else
            gb (fR_ValueMachineModel_falls N s43 3 (gI s43 16)) fun _ s44 =>
            some ((), s44)
          else
          if (gA st 0 (gI st 6).toNatClampNeg) = 27 then
            gb (fR_ValueMachineModel_object N (uI (uI st 16 0) 14 ((gI st 14) + 1))) fun _ s41 =>
            if (gI s41 16) ≤ 0 then
              some ((), (uI s41 6 ((gI s41 6) + 1)))
            else
            gb (fR_ValueMachineModel_falls N s41 3 (gI s41 16)) fun _ s42 =>
            some ((), s42)
          else
          if (gA st 0 (gI st 6).toNatClampNeg) = 28 then
            gb (fR_ValueMachineModel_array N (uI (uI st 16 0) 14 ((gI st 14) + 1)) (gA st 1 (gI st 6).toNatClampNeg)) fun _ s39 =>
            if (gI s39 16) ≤ 0 then
              some ((), (uI s39 6 ((gI s39 6) + 1)))
            else
            gb (fR_ValueMachineModel_falls N s39 3 (gI s39 16)) fun _ s40 =>
            some ((), s40)
          else
          if (gA st 0 (gI st 6).toNatClampNeg) = 29 then
            if (gA st 1 (gI st 6).toNatClampNeg) < 0 then
              gb (fR_ValueMachineModel_needs N (uI (uI st 16 0) 14 ((gI st 14) + 1)) 0 8) fun r27 s27 =>
              if r27 = 0 then
                if (gI s27 16) ≤ 0 then
                  some ((), (uI s27 6 ((gI s27 6) + 1)))
                else
                gb (fR_ValueMachineModel_falls N s27 3 (gI s27 16)) fun _ s28 =>
                some ((), s28)
              else
              gb (fR_ValueMachineModel_acc N s27 6 (gA st 1 (gI st 6).toNatClampNeg)) fun _ s29 =>
              if (gI s29 16) ≤ 0 then
                some ((), (uI s29 6 ((gI s29 6) + 1)))
              else
              gb (fR_ValueMachineModel_falls N s29 3 (gI s29 16)) fun _ s30 =>
              some ((), s30)
            else
            if (gI st 1) < ((gA st 1 (gI st 6).toNatClampNeg) / 8) then
              gb (fR_ValueMachineModel_needs N (uI (uI st 16 0) 14 ((gI st 14) + 1)) 0 8) fun r31 s31 =>
              if r31 = 0 then
                if (gI s31 16) ≤ 0 then
                  some ((), (uI s31 6 ((gI s31 6) + 1)))
                else
                gb (fR_ValueMachineModel_falls N s31 3 (gI s31 16)) fun _ s32 =>
                some ((), s32)
              else
              gb (fR_ValueMachineModel_acc N s31 6 (gA st 1 (gI st 6).toNatClampNeg)) fun _ s33 =>
              if (gI s33 16) ≤ 0 then
                some ((), (uI s33 6 ((gI s33 6) + 1)))
              else
              gb (fR_ValueMachineModel_falls N s33 3 (gI s33 16)) fun _ s34 =>
              some ((), s34)
            else
            gb (fR_ValueMachineModel_needs N (uI (uI st 16 0) 14 ((gI st 14) + 1)) 1 8) fun r35 s35 =>
            if r35 = 0 then
              if (gI s35 16) ≤ 0 then
                some ((), (uI s35 6 ((gI s35 6) + 1)))
              else
              gb (fR_ValueMachineModel_falls N s35 3 (gI s35 16)) fun _ s36 =>
              some ((), s36)
            else
            gb (fR_ValueMachineModel_acc N s35 6 (gA st 1 (gI st 6).toNatClampNeg)) fun _ s37 =>
            if (gI s37 16) ≤ 0 then
              some ((), (uI s37 6 ((gI s37 6) + 1)))
            else
            gb (fR_ValueMachineModel_falls N s37 3 (gI s37 16)) fun _ s38 =>
            some ((), s38)
          else
          gb (fR_ValueMachineModel_goes N (uI (uI st 16 0) 14 ((gI st 14) + 1)) (gA st 0 (gI st 6).toNatClampNeg) (gA st 1 (gI st 6).toNatClampNeg)) fun r25 s25 =>
          if (gI s25 16) ≤ 0 then
            if r25 = 0 then
              some ((), (uI s25 6 ((gI s25 6) + 1)))
            else
            some ((), s25)
          else
          gb (fR_ValueMachineModel_falls N s25 3 (gI s25 16)) fun _ s26 =>
          some ((), s26)
        else
        gb (fR_ValueMachineModel_reckons N (uI (uI st 16 0) 14 ((gI st 14) + 1)) (gA st 0 (gI st 6).toNatClampNeg)) fun _ s49 =>
        if (gI s49 16) ≤ 0 then
          some ((), (uI s49 6 ((gI s49 6) + 1)))
        else
        gb (fR_ValueMachineModel_falls N s49 3 (gI s49 16)) fun _ s50 =>
        some ((), s50)
      else
      gb (fR_ValueMachineModel_stores N (uI (uI st 16 0) 14 ((gI st 14) + 1)) (gA st 0 (gI st 6).toNatClampNeg) (gA st 1 (gI st 6).toNatClampNeg)) fun _ s51 =>
      if (gI s51 16) ≤ 0 then
        some ((), (uI s51 6 ((gI s51 6) + 1)))
      else
      gb (fR_ValueMachineModel_falls N s51 3 (gI s51 16)) fun _ s52 =>
      some ((), s52)
    else
    gb (fR_ValueMachineModel_loads N (uI (uI st 16 0) 14 ((gI st 14) + 1)) (gA st 0 (gI st 6).toNatClampNeg) (gA st 1 (gI st 6).toNatClampNeg)) fun _ s53 =>
    if (gI s53 16) ≤ 0 then
      some ((), (uI s53 6 ((gI s53 6) + 1)))
    else
    gb (fR_ValueMachineModel_falls N s53 3 (gI s53 16)) fun _ s54 =>
    some ((), s54)
  else
  gb (fR_ValueMachineModel_acc N (uI (uI st 16 0) 14 ((gI st 14) + 1)) (gA st 0 (gI st 6).toNatClampNeg) 0) fun _ s57 =>
  if (gI s57 16) ≤ 0 then
    some ((), (uI s57 6 ((gI s57 6) + 1)))
  else
  gb (fR_ValueMachineModel_falls N s57 3 (gI s57 16)) fun _ s58 =>
  some ((), s58)
def fR_ValueMachineModel_run_L41 (N : Nat) : Nat → Int32 → Int32 → SG → Option (Int32 × SG)
  | 0, _, _, _ => none
  | n + 1, v1, v2, st =>
    if v1 ≤ v2 then
      some (v2, st)
    else
    if (gI st 7) = 0 then
      if (gI st 1) ≤ (gI st 6) then
        some (v2, st)
      else
      gb (fR_ValueMachineModel_step N st) fun _ s1 =>
      fR_ValueMachineModel_run_L41 N n v1 (v2 + 1) s1
    else
    some (v2, st)
def fR_ValueMachineModel_run (N : Nat) (st : SG) (a0 : Int32) : Option (Int32 × SG) :=
  if a0 < 0 then
    some (0, (uI st 0 1))
  else
  if a0 ≤ 20000 then
    fR_ValueMachineModel_run_L41 N N a0 0 (uI (uI (uI st 0 0) 10 0) 11 0)
  else
  some (0, (uI st 0 1))
def fR_ValueMachineModel_state (N : Nat) (st : SG) : Option (Int32 × SG) :=
  if (gI st 7) = 0 then
    if (gI st 6) = (gI st 1) then
      some (1, (uI st 0 0))
    else
    some (0, (uI st 0 0))
  else
  some (2, (uI st 0 0))
def fR_ValueMachineModel_chooses (N : Nat) (st : SG) (a0 : Int32) (a1 : Int32) : Option (Int32 × SG) :=
  some (a0, (uI (uI st 10 a0) 11 a1))
def fR_ValueMachineModel_look (N : Nat) (st : SG) (a0 : Int32) (a1 : Int32) : Option (Int32 × SG) :=
  if a0 = 0 then
    gb (fR_ValueMachineModel_chooses N (uI st 0 0) (gI st 2) (gI st 3)) fun r1 s1 =>
    some (r1, s1)
  else
  if a0 = 1 then
    if a1 < 0 then
      some ((-1), (uI st 0 0))
    else
    if a1 < (gI st 4) then
      gb (fR_ValueMachineModel_deep N (uI st 0 0) a1) fun r2 s2 =>
      if r2 < 0 ∨ 120 ≤ r2.toNatClampNeg then none else
      gb (fR_ValueMachineModel_deep N s2 a1) fun r3 s3 =>
      if r3 < 0 ∨ 120 ≤ r3.toNatClampNeg then none else
      gb (fR_ValueMachineModel_chooses N s3 (gA s2 2 r2.toNatClampNeg) (gA s3 3 r3.toNatClampNeg)) fun r4 s4 =>
      some (r4, s4)
    else
    some ((-1), (uI st 0 0))
  else
  if a0 = 2 then
    if a1 < 0 then
      some ((-1), (uI st 0 0))
    else
    if a1 ≤ 7 then
      if a1 < 0 ∨ 8 ≤ a1.toNatClampNeg then none else
      if a1 < 0 ∨ 8 ≤ a1.toNatClampNeg then none else
      gb (fR_ValueMachineModel_chooses N (uI st 0 0) (gA st 4 a1.toNatClampNeg) (gA st 5 a1.toNatClampNeg)) fun r5 s5 =>
      some (r5, s5)
    else
    some ((-1), (uI st 0 0))
  else
  if a0 = 3 then
    if (gI st 7) = 0 then
      some ((-1), (uI st 0 0))
    else
    gb (fR_ValueMachineModel_chooses N (uI st 0 0) (gI st 8) (gI st 9)) fun r6 s6 =>
    some (r6, s6)
  else
  some ((-1), (uI st 0 0))
def fR_ValueMachineModel_into (N : Nat) (st : SG) (a0 : Int32) : Option (Int32 × SG) :=
  if (gI st 10) = 4 then
    if a0 < 0 then
      some ((-1), (uI st 0 0))
    else
    if (gI st 11) < 0 ∨ 30 ≤ (gI st 11).toNatClampNeg then none else
    if a0 < (gA st 9 (gI st 11).toNatClampNeg) then
      if ((20 * (gI st 11)) + a0) < 0 ∨ 600 ≤ ((20 * (gI st 11)) + a0).toNatClampNeg then none else
      if ((20 * (gI st 11)) + a0) < 0 ∨ 600 ≤ ((20 * (gI st 11)) + a0).toNatClampNeg then none else
      gb (fR_ValueMachineModel_chooses N (uI st 0 0) (gA st 10 ((20 * (gI st 11)) + a0).toNatClampNeg) (gA st 11 ((20 * (gI st 11)) + a0).toNatClampNeg)) fun r1 s1 =>
      some (r1, s1)
    else
    some ((-1), (uI st 0 0))
  else
  if (gI st 10) = 5 then
    if a0 < 0 then
      some ((-1), (uI st 0 0))
    else
    if (gI st 11) < 0 ∨ 30 ≤ (gI st 11).toNatClampNeg then none else
    if a0 < (gA st 9 (gI st 11).toNatClampNeg) then
      if ((20 * (gI st 11)) + a0) < 0 ∨ 600 ≤ ((20 * (gI st 11)) + a0).toNatClampNeg then none else
      if ((20 * (gI st 11)) + a0) < 0 ∨ 600 ≤ ((20 * (gI st 11)) + a0).toNatClampNeg then none else
      gb (fR_ValueMachineModel_chooses N (uI st 0 0) (gA st 10 ((20 * (gI st 11)) + a0).toNatClampNeg) (gA st 11 ((20 * (gI st 11)) + a0).toNatClampNeg)) fun r2 s2 =>
      some (r2, s2)
    else
    some ((-1), (uI st 0 0))
  else
  some ((-1), (uI st 0 0))
def fR_ValueMachineModel_value (N : Nat) (st : SG) : Option (Int32 × SG) :=
  if (gI st 10) = 3 then
    some (gI st 11, (uI st 0 0))
  else
  if (gI st 10) = 6 then
    some (gI st 11, (uI st 0 0))
  else
  if (gI st 10) = 5 then
    if (gI st 11) < 0 ∨ 30 ≤ (gI st 11).toNatClampNeg then none else
    some (gA st 9 (gI st 11).toNatClampNeg, (uI st 0 0))
  else
  some (0, (uI st 0 0))
def fR_ValueMachineModel_isSame (N : Nat) (st : SG) : Option (Int32 × SG) :=
  gb (fR_ValueMachineModel_same N (uI st 0 0) (gI st 10) (gI st 11) (gI st 2) (gI st 3)) fun r1 s1 =>
  if ¬ (r1 &&& 1 = r1) then none else
  some (r1, s1)
def fR_ValueMachineModel_count (N : Nat) (st : SG) (a0 : Int32) : Option (Int32 × SG) :=
  if a0 = 0 then
    some (gI st 1, (uI st 0 0))
  else
  if a0 = 1 then
    some (gI st 6, (uI st 0 0))
  else
  if a0 = 2 then
    some (gI st 4, (uI st 0 0))
  else
  if a0 = 3 then
    some (gI st 5, (uI st 0 0))
  else
  if a0 = 4 then
    gb (fR_ValueMachineModel_many N (uI st 0 0)) fun r1 s1 =>
    some (r1, s1)
  else
  if a0 = 5 then
    some (gI st 12, (uI st 0 0))
  else
  if a0 = 6 then
    some (gI st 13, (uI st 0 0))
  else
  if a0 = 7 then
    some (gI st 14, (uI st 0 0))
  else
  if a0 = 8 then
    some (gI st 15, (uI st 0 0))
  else
  some ((-1), (uI st 0 0))
