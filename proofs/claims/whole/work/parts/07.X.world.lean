def Xf_0 (ad : Nat → Nat) (st : SG) : List Value := [.ref (ad 1), .ref (ad 4), .ref (ad 6), .ref (ad 9), .ref (ad 15), .long (gL st 0), .long (gL st 1), .long (gL st 2), .int (gI st 7), .int (gI st 8), .int (gI st 9), .int (gI st 10)]
def Xf_1 (ad : Nat → Nat) (st : SG) : List Value := [.ref (ad 2), .ref (ad 3), .int (gI st 0)]
def Xf_2 (ad : Nat → Nat) (st : SG) : List Value := [.ref (ad 5), .int (gI st 1)]
def Xf_3 (ad : Nat → Nat) (st : SG) : List Value := [.ref (ad 7), .ref (ad 8), .int (gI st 2)]
def Xf_4 (ad : Nat → Nat) (st : SG) : List Value := [.ref (ad 10), .ref (ad 11), .ref (ad 12), .ref (ad 13), .ref (ad 14), .int (gI st 3), .int (gI st 4), .int (gI st 5), .int (gI st 6)]
def Xw (ad : Nat → Nat) (ca : Nat → ClassId) (st : SG) : va_W := [(ad 0, .inr (0, Xf_0 ad st)), (ad 1, .inr (1, Xf_1 ad st)), (ad 2, .inl (ca 0, 150, .inl (gA st 0))), (ad 3, .inl (ca 1, 150, .inl (gA st 1))), (ad 4, .inr (2, Xf_2 ad st)), (ad 5, .inl (ca 2, 120, .inr (.inl (gB st 0)))), (ad 6, .inr (3, Xf_3 ad st)), (ad 7, .inl (ca 3, 40, .inl (gA st 2))), (ad 8, .inl (ca 4, 40, .inl (gA st 3))), (ad 9, .inr (4, Xf_4 ad st)), (ad 10, .inl (ca 5, 600, .inr (.inl (gB st 1)))), (ad 11, .inl (ca 6, 30, .inl (gA st 4))), (ad 12, .inl (ca 7, 30, .inl (gA st 5))), (ad 13, .inl (ca 8, 30, .inl (gA st 6))), (ad 14, .inl (ca 9, 30, .inl (gA st 7))), (ad 15, .inl (ca 10, 8, .inr (.inl (gB st 2))))]
abbrev Xtys (ca : Nat → ClassId) : List (ClassId × FieldType) := [(ca 0, .int), (ca 1, .int), (ca 2, .long), (ca 3, .int), (ca 4, .int), (ca 5, .long), (ca 6, .int), (ca 7, .boolean), (ca 8, .boolean), (ca 9, .int), (ca 10, .long)]
theorem Xw_0 (ad : Nat → Nat) (ca : Nat → ClassId) (st : SG) : (Xw ad ca st)[0]? = some (ad 0, .inr (0, Xf_0 ad st)) := rfl
theorem Xw_1 (ad : Nat → Nat) (ca : Nat → ClassId) (st : SG) : (Xw ad ca st)[1]? = some (ad 1, .inr (1, Xf_1 ad st)) := rfl
theorem Xw_2 (ad : Nat → Nat) (ca : Nat → ClassId) (st : SG) : (Xw ad ca st)[2]? = some (ad 2, .inl (ca 0, 150, .inl (gA st 0))) := rfl
theorem Xw_3 (ad : Nat → Nat) (ca : Nat → ClassId) (st : SG) : (Xw ad ca st)[3]? = some (ad 3, .inl (ca 1, 150, .inl (gA st 1))) := rfl
theorem Xw_4 (ad : Nat → Nat) (ca : Nat → ClassId) (st : SG) : (Xw ad ca st)[4]? = some (ad 4, .inr (2, Xf_2 ad st)) := rfl
theorem Xw_5 (ad : Nat → Nat) (ca : Nat → ClassId) (st : SG) : (Xw ad ca st)[5]? = some (ad 5, .inl (ca 2, 120, .inr (.inl (gB st 0)))) := rfl
theorem Xw_6 (ad : Nat → Nat) (ca : Nat → ClassId) (st : SG) : (Xw ad ca st)[6]? = some (ad 6, .inr (3, Xf_3 ad st)) := rfl
theorem Xw_7 (ad : Nat → Nat) (ca : Nat → ClassId) (st : SG) : (Xw ad ca st)[7]? = some (ad 7, .inl (ca 3, 40, .inl (gA st 2))) := rfl
theorem Xw_8 (ad : Nat → Nat) (ca : Nat → ClassId) (st : SG) : (Xw ad ca st)[8]? = some (ad 8, .inl (ca 4, 40, .inl (gA st 3))) := rfl
theorem Xw_9 (ad : Nat → Nat) (ca : Nat → ClassId) (st : SG) : (Xw ad ca st)[9]? = some (ad 9, .inr (4, Xf_4 ad st)) := rfl
theorem Xw_10 (ad : Nat → Nat) (ca : Nat → ClassId) (st : SG) : (Xw ad ca st)[10]? = some (ad 10, .inl (ca 5, 600, .inr (.inl (gB st 1)))) := rfl
theorem Xw_11 (ad : Nat → Nat) (ca : Nat → ClassId) (st : SG) : (Xw ad ca st)[11]? = some (ad 11, .inl (ca 6, 30, .inl (gA st 4))) := rfl
theorem Xw_12 (ad : Nat → Nat) (ca : Nat → ClassId) (st : SG) : (Xw ad ca st)[12]? = some (ad 12, .inl (ca 7, 30, .inl (gA st 5))) := rfl
theorem Xw_13 (ad : Nat → Nat) (ca : Nat → ClassId) (st : SG) : (Xw ad ca st)[13]? = some (ad 13, .inl (ca 8, 30, .inl (gA st 6))) := rfl
theorem Xw_14 (ad : Nat → Nat) (ca : Nat → ClassId) (st : SG) : (Xw ad ca st)[14]? = some (ad 14, .inl (ca 9, 30, .inl (gA st 7))) := rfl
theorem Xw_15 (ad : Nat → Nat) (ca : Nat → ClassId) (st : SG) : (Xw ad ca st)[15]? = some (ad 15, .inl (ca 10, 8, .inr (.inl (gB st 2)))) := rfl
theorem Xs_L0 (ad : Nat → Nat) (ca : Nat → ClassId) (st : SG) (v : Int64) : (Xw ad ca st).set 0 (ad 0, .inr (0, (Xf_0 ad st).set 5 (.long v))) = Xw ad ca (uL st 0 v) := rfl
theorem Xs_L1 (ad : Nat → Nat) (ca : Nat → ClassId) (st : SG) (v : Int64) : (Xw ad ca st).set 0 (ad 0, .inr (0, (Xf_0 ad st).set 6 (.long v))) = Xw ad ca (uL st 1 v) := rfl
theorem Xs_L2 (ad : Nat → Nat) (ca : Nat → ClassId) (st : SG) (v : Int64) : (Xw ad ca st).set 0 (ad 0, .inr (0, (Xf_0 ad st).set 7 (.long v))) = Xw ad ca (uL st 2 v) := rfl
theorem Xs_I7 (ad : Nat → Nat) (ca : Nat → ClassId) (st : SG) (v : Int32) : (Xw ad ca st).set 0 (ad 0, .inr (0, (Xf_0 ad st).set 8 (.int v))) = Xw ad ca (uI st 7 v) := rfl
theorem Xs_I8 (ad : Nat → Nat) (ca : Nat → ClassId) (st : SG) (v : Int32) : (Xw ad ca st).set 0 (ad 0, .inr (0, (Xf_0 ad st).set 9 (.int v))) = Xw ad ca (uI st 8 v) := rfl
theorem Xs_I9 (ad : Nat → Nat) (ca : Nat → ClassId) (st : SG) (v : Int32) : (Xw ad ca st).set 0 (ad 0, .inr (0, (Xf_0 ad st).set 10 (.int v))) = Xw ad ca (uI st 9 v) := rfl
theorem Xs_I10 (ad : Nat → Nat) (ca : Nat → ClassId) (st : SG) (v : Int32) : (Xw ad ca st).set 0 (ad 0, .inr (0, (Xf_0 ad st).set 11 (.int v))) = Xw ad ca (uI st 10 v) := rfl
theorem Xs_I0 (ad : Nat → Nat) (ca : Nat → ClassId) (st : SG) (v : Int32) : (Xw ad ca st).set 1 (ad 1, .inr (1, (Xf_1 ad st).set 2 (.int v))) = Xw ad ca (uI st 0 v) := rfl
theorem Xs_I1 (ad : Nat → Nat) (ca : Nat → ClassId) (st : SG) (v : Int32) : (Xw ad ca st).set 4 (ad 4, .inr (2, (Xf_2 ad st).set 1 (.int v))) = Xw ad ca (uI st 1 v) := rfl
theorem Xs_I2 (ad : Nat → Nat) (ca : Nat → ClassId) (st : SG) (v : Int32) : (Xw ad ca st).set 6 (ad 6, .inr (3, (Xf_3 ad st).set 2 (.int v))) = Xw ad ca (uI st 2 v) := rfl
theorem Xs_I3 (ad : Nat → Nat) (ca : Nat → ClassId) (st : SG) (v : Int32) : (Xw ad ca st).set 9 (ad 9, .inr (4, (Xf_4 ad st).set 5 (.int v))) = Xw ad ca (uI st 3 v) := rfl
theorem Xs_I4 (ad : Nat → Nat) (ca : Nat → ClassId) (st : SG) (v : Int32) : (Xw ad ca st).set 9 (ad 9, .inr (4, (Xf_4 ad st).set 6 (.int v))) = Xw ad ca (uI st 4 v) := rfl
theorem Xs_I5 (ad : Nat → Nat) (ca : Nat → ClassId) (st : SG) (v : Int32) : (Xw ad ca st).set 9 (ad 9, .inr (4, (Xf_4 ad st).set 7 (.int v))) = Xw ad ca (uI st 5 v) := rfl
theorem Xs_I6 (ad : Nat → Nat) (ca : Nat → ClassId) (st : SG) (v : Int32) : (Xw ad ca st).set 9 (ad 9, .inr (4, (Xf_4 ad st).set 8 (.int v))) = Xw ad ca (uI st 6 v) := rfl
theorem Xs_A0 (ad : Nat → Nat) (ca : Nat → ClassId) (st : SG) (f : Nat → Int32) : (Xw ad ca st).set 2 (ad 2, .inl (ca 0, 150, .inl f)) = Xw ad ca (uA st 0 f) := rfl
theorem Xs_A1 (ad : Nat → Nat) (ca : Nat → ClassId) (st : SG) (f : Nat → Int32) : (Xw ad ca st).set 3 (ad 3, .inl (ca 1, 150, .inl f)) = Xw ad ca (uA st 1 f) := rfl
theorem Xs_B0 (ad : Nat → Nat) (ca : Nat → ClassId) (st : SG) (f : Nat → Int64) : (Xw ad ca st).set 5 (ad 5, .inl (ca 2, 120, .inr (.inl f))) = Xw ad ca (uB st 0 f) := rfl
theorem Xs_A2 (ad : Nat → Nat) (ca : Nat → ClassId) (st : SG) (f : Nat → Int32) : (Xw ad ca st).set 7 (ad 7, .inl (ca 3, 40, .inl f)) = Xw ad ca (uA st 2 f) := rfl
theorem Xs_A3 (ad : Nat → Nat) (ca : Nat → ClassId) (st : SG) (f : Nat → Int32) : (Xw ad ca st).set 8 (ad 8, .inl (ca 4, 40, .inl f)) = Xw ad ca (uA st 3 f) := rfl
theorem Xs_B1 (ad : Nat → Nat) (ca : Nat → ClassId) (st : SG) (f : Nat → Int64) : (Xw ad ca st).set 10 (ad 10, .inl (ca 5, 600, .inr (.inl f))) = Xw ad ca (uB st 1 f) := rfl
theorem Xs_A4 (ad : Nat → Nat) (ca : Nat → ClassId) (st : SG) (f : Nat → Int32) : (Xw ad ca st).set 11 (ad 11, .inl (ca 6, 30, .inl f)) = Xw ad ca (uA st 4 f) := rfl
theorem Xs_A5 (ad : Nat → Nat) (ca : Nat → ClassId) (st : SG) (f : Nat → Int32) : (Xw ad ca st).set 12 (ad 12, .inl (ca 7, 30, .inl f)) = Xw ad ca (uA st 5 f) := rfl
theorem Xs_A6 (ad : Nat → Nat) (ca : Nat → ClassId) (st : SG) (f : Nat → Int32) : (Xw ad ca st).set 13 (ad 13, .inl (ca 8, 30, .inl f)) = Xw ad ca (uA st 6 f) := rfl
theorem Xs_A7 (ad : Nat → Nat) (ca : Nat → ClassId) (st : SG) (f : Nat → Int32) : (Xw ad ca st).set 14 (ad 14, .inl (ca 9, 30, .inl f)) = Xw ad ca (uA st 7 f) := rfl
theorem Xs_B2 (ad : Nat → Nat) (ca : Nat → ClassId) (st : SG) (f : Nat → Int64) : (Xw ad ca st).set 15 (ad 15, .inl (ca 10, 8, .inr (.inl f))) = Xw ad ca (uB st 2 f) := rfl
