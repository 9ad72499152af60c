def Rf_0 (ad : Nat → Nat) (st : SG) : List Value := [.int (gI st 0), .ref (ad 1), .ref (ad 2), .int (gI st 1), .int (gI st 2), .int (gI st 3), .ref (ad 3), .ref (ad 4), .int (gI st 4), .ref (ad 5), .ref (ad 6), .ref (ad 7), .ref (ad 8), .int (gI st 5), .ref (ad 9), .ref (ad 10), .ref (ad 11), .ref (ad 12), .ref (ad 13), .int (gI st 6), .int (gI st 7), .int (gI st 8), .int (gI st 9), .int (gI st 10), .int (gI st 11), .int (gI st 12), .int (gI st 13), .int (gI st 14), .int (gI st 15), .int (gI st 16)]
def Rw (ad : Nat → Nat) (ca : Nat → ClassId) (st : SG) : va_W := [(ad 0, .inr (5, Rf_0 ad st)), (ad 1, .inl (ca 0, 150, .inl (gA st 0))), (ad 2, .inl (ca 1, 150, .inl (gA st 1))), (ad 3, .inl (ca 2, 120, .inl (gA st 2))), (ad 4, .inl (ca 3, 120, .inl (gA st 3))), (ad 5, .inl (ca 4, 8, .inl (gA st 4))), (ad 6, .inl (ca 5, 8, .inl (gA st 5))), (ad 7, .inl (ca 6, 40, .inl (gA st 6))), (ad 8, .inl (ca 7, 40, .inl (gA st 7))), (ad 9, .inl (ca 8, 30, .inl (gA st 8))), (ad 10, .inl (ca 9, 30, .inl (gA st 9))), (ad 11, .inl (ca 10, 600, .inl (gA st 10))), (ad 12, .inl (ca 11, 600, .inl (gA st 11))), (ad 13, .inl (ca 12, 30, .inl (gA st 12)))]
abbrev Rtys (ca : Nat → ClassId) : List (ClassId × FieldType) := [(ca 0, .int), (ca 1, .int), (ca 2, .int), (ca 3, .int), (ca 4, .int), (ca 5, .int), (ca 6, .int), (ca 7, .int), (ca 8, .int), (ca 9, .int), (ca 10, .int), (ca 11, .int), (ca 12, .boolean)]
theorem Rw_0 (ad : Nat → Nat) (ca : Nat → ClassId) (st : SG) : (Rw ad ca st)[0]? = some (ad 0, .inr (5, Rf_0 ad st)) := rfl
theorem Rw_1 (ad : Nat → Nat) (ca : Nat → ClassId) (st : SG) : (Rw ad ca st)[1]? = some (ad 1, .inl (ca 0, 150, .inl (gA st 0))) := rfl
theorem Rw_2 (ad : Nat → Nat) (ca : Nat → ClassId) (st : SG) : (Rw ad ca st)[2]? = some (ad 2, .inl (ca 1, 150, .inl (gA st 1))) := rfl
theorem Rw_3 (ad : Nat → Nat) (ca : Nat → ClassId) (st : SG) : (Rw ad ca st)[3]? = some (ad 3, .inl (ca 2, 120, .inl (gA st 2))) := rfl
theorem Rw_4 (ad : Nat → Nat) (ca : Nat → ClassId) (st : SG) : (Rw ad ca st)[4]? = some (ad 4, .inl (ca 3, 120, .inl (gA st 3))) := rfl
theorem Rw_5 (ad : Nat → Nat) (ca : Nat → ClassId) (st : SG) : (Rw ad ca st)[5]? = some (ad 5, .inl (ca 4, 8, .inl (gA st 4))) := rfl
theorem Rw_6 (ad : Nat → Nat) (ca : Nat → ClassId) (st : SG) : (Rw ad ca st)[6]? = some (ad 6, .inl (ca 5, 8, .inl (gA st 5))) := rfl
theorem Rw_7 (ad : Nat → Nat) (ca : Nat → ClassId) (st : SG) : (Rw ad ca st)[7]? = some (ad 7, .inl (ca 6, 40, .inl (gA st 6))) := rfl
theorem Rw_8 (ad : Nat → Nat) (ca : Nat → ClassId) (st : SG) : (Rw ad ca st)[8]? = some (ad 8, .inl (ca 7, 40, .inl (gA st 7))) := rfl
theorem Rw_9 (ad : Nat → Nat) (ca : Nat → ClassId) (st : SG) : (Rw ad ca st)[9]? = some (ad 9, .inl (ca 8, 30, .inl (gA st 8))) := rfl
theorem Rw_10 (ad : Nat → Nat) (ca : Nat → ClassId) (st : SG) : (Rw ad ca st)[10]? = some (ad 10, .inl (ca 9, 30, .inl (gA st 9))) := rfl
theorem Rw_11 (ad : Nat → Nat) (ca : Nat → ClassId) (st : SG) : (Rw ad ca st)[11]? = some (ad 11, .inl (ca 10, 600, .inl (gA st 10))) := rfl
theorem Rw_12 (ad : Nat → Nat) (ca : Nat → ClassId) (st : SG) : (Rw ad ca st)[12]? = some (ad 12, .inl (ca 11, 600, .inl (gA st 11))) := rfl
theorem Rw_13 (ad : Nat → Nat) (ca : Nat → ClassId) (st : SG) : (Rw ad ca st)[13]? = some (ad 13, .inl (ca 12, 30, .inl (gA st 12))) := rfl
theorem Rs_I0 (ad : Nat → Nat) (ca : Nat → ClassId) (st : SG) (v : Int32) : (Rw ad ca st).set 0 (ad 0, .inr (5, (Rf_0 ad st).set 0 (.int v))) = Rw ad ca (uI st 0 v) := rfl
theorem Rs_I1 (ad : Nat → Nat) (ca : Nat → ClassId) (st : SG) (v : Int32) : (Rw ad ca st).set 0 (ad 0, .inr (5, (Rf_0 ad st).set 3 (.int v))) = Rw ad ca (uI st 1 v) := rfl
theorem Rs_I2 (ad : Nat → Nat) (ca : Nat → ClassId) (st : SG) (v : Int32) : (Rw ad ca st).set 0 (ad 0, .inr (5, (Rf_0 ad st).set 4 (.int v))) = Rw ad ca (uI st 2 v) := rfl
theorem Rs_I3 (ad : Nat → Nat) (ca : Nat → ClassId) (st : SG) (v : Int32) : (Rw ad ca st).set 0 (ad 0, .inr (5, (Rf_0 ad st).set 5 (.int v))) = Rw ad ca (uI st 3 v) := rfl
theorem Rs_I4 (ad : Nat → Nat) (ca : Nat → ClassId) (st : SG) (v : Int32) : (Rw ad ca st).set 0 (ad 0, .inr (5, (Rf_0 ad st).set 8 (.int v))) = Rw ad ca (uI st 4 v) := rfl
theorem Rs_I5 (ad : Nat → Nat) (ca : Nat → ClassId) (st : SG) (v : Int32) : (Rw ad ca st).set 0 (ad 0, .inr (5, (Rf_0 ad st).set 13 (.int v))) = Rw ad ca (uI st 5 v) := rfl
theorem Rs_I6 (ad : Nat → Nat) (ca : Nat → ClassId) (st : SG) (v : Int32) : (Rw ad ca st).set 0 (ad 0, .inr (5, (Rf_0 ad st).set 19 (.int v))) = Rw ad ca (uI st 6 v) := rfl
theorem Rs_I7 (ad : Nat → Nat) (ca : Nat → ClassId) (st : SG) (v : Int32) : (Rw ad ca st).set 0 (ad 0, .inr (5, (Rf_0 ad st).set 20 (.int v))) = Rw ad ca (uI st 7 v) := rfl
theorem Rs_I8 (ad : Nat → Nat) (ca : Nat → ClassId) (st : SG) (v : Int32) : (Rw ad ca st).set 0 (ad 0, .inr (5, (Rf_0 ad st).set 21 (.int v))) = Rw ad ca (uI st 8 v) := rfl
theorem Rs_I9 (ad : Nat → Nat) (ca : Nat → ClassId) (st : SG) (v : Int32) : (Rw ad ca st).set 0 (ad 0, .inr (5, (Rf_0 ad st).set 22 (.int v))) = Rw ad ca (uI st 9 v) := rfl
theorem Rs_I10 (ad : Nat → Nat) (ca : Nat → ClassId) (st : SG) (v : Int32) : (Rw ad ca st).set 0 (ad 0, .inr (5, (Rf_0 ad st).set 23 (.int v))) = Rw ad ca (uI st 10 v) := rfl
theorem Rs_I11 (ad : Nat → Nat) (ca : Nat → ClassId) (st : SG) (v : Int32) : (Rw ad ca st).set 0 (ad 0, .inr (5, (Rf_0 ad st).set 24 (.int v))) = Rw ad ca (uI st 11 v) := rfl
theorem Rs_I12 (ad : Nat → Nat) (ca : Nat → ClassId) (st : SG) (v : Int32) : (Rw ad ca st).set 0 (ad 0, .inr (5, (Rf_0 ad st).set 25 (.int v))) = Rw ad ca (uI st 12 v) := rfl
theorem Rs_I13 (ad : Nat → Nat) (ca : Nat → ClassId) (st : SG) (v : Int32) : (Rw ad ca st).set 0 (ad 0, .inr (5, (Rf_0 ad st).set 26 (.int v))) = Rw ad ca (uI st 13 v) := rfl
theorem Rs_I14 (ad : Nat → Nat) (ca : Nat → ClassId) (st : SG) (v : Int32) : (Rw ad ca st).set 0 (ad 0, .inr (5, (Rf_0 ad st).set 27 (.int v))) = Rw ad ca (uI st 14 v) := rfl
theorem Rs_I15 (ad : Nat → Nat) (ca : Nat → ClassId) (st : SG) (v : Int32) : (Rw ad ca st).set 0 (ad 0, .inr (5, (Rf_0 ad st).set 28 (.int v))) = Rw ad ca (uI st 15 v) := rfl
theorem Rs_I16 (ad : Nat → Nat) (ca : Nat → ClassId) (st : SG) (v : Int32) : (Rw ad ca st).set 0 (ad 0, .inr (5, (Rf_0 ad st).set 29 (.int v))) = Rw ad ca (uI st 16 v) := rfl
theorem Rs_A0 (ad : Nat → Nat) (ca : Nat → ClassId) (st : SG) (f : Nat → Int32) : (Rw ad ca st).set 1 (ad 1, .inl (ca 0, 150, .inl f)) = Rw ad ca (uA st 0 f) := rfl
theorem Rs_A1 (ad : Nat → Nat) (ca : Nat → ClassId) (st : SG) (f : Nat → Int32) : (Rw ad ca st).set 2 (ad 2, .inl (ca 1, 150, .inl f)) = Rw ad ca (uA st 1 f) := rfl
theorem Rs_A2 (ad : Nat → Nat) (ca : Nat → ClassId) (st : SG) (f : Nat → Int32) : (Rw ad ca st).set 3 (ad 3, .inl (ca 2, 120, .inl f)) = Rw ad ca (uA st 2 f) := rfl
theorem Rs_A3 (ad : Nat → Nat) (ca : Nat → ClassId) (st : SG) (f : Nat → Int32) : (Rw ad ca st).set 4 (ad 4, .inl (ca 3, 120, .inl f)) = Rw ad ca (uA st 3 f) := rfl
theorem Rs_A4 (ad : Nat → Nat) (ca : Nat → ClassId) (st : SG) (f : Nat → Int32) : (Rw ad ca st).set 5 (ad 5, .inl (ca 4, 8, .inl f)) = Rw ad ca (uA st 4 f) := rfl
theorem Rs_A5 (ad : Nat → Nat) (ca : Nat → ClassId) (st : SG) (f : Nat → Int32) : (Rw ad ca st).set 6 (ad 6, .inl (ca 5, 8, .inl f)) = Rw ad ca (uA st 5 f) := rfl
theorem Rs_A6 (ad : Nat → Nat) (ca : Nat → ClassId) (st : SG) (f : Nat → Int32) : (Rw ad ca st).set 7 (ad 7, .inl (ca 6, 40, .inl f)) = Rw ad ca (uA st 6 f) := rfl
theorem Rs_A7 (ad : Nat → Nat) (ca : Nat → ClassId) (st : SG) (f : Nat → Int32) : (Rw ad ca st).set 8 (ad 8, .inl (ca 7, 40, .inl f)) = Rw ad ca (uA st 7 f) := rfl
theorem Rs_A8 (ad : Nat → Nat) (ca : Nat → ClassId) (st : SG) (f : Nat → Int32) : (Rw ad ca st).set 9 (ad 9, .inl (ca 8, 30, .inl f)) = Rw ad ca (uA st 8 f) := rfl
theorem Rs_A9 (ad : Nat → Nat) (ca : Nat → ClassId) (st : SG) (f : Nat → Int32) : (Rw ad ca st).set 10 (ad 10, .inl (ca 9, 30, .inl f)) = Rw ad ca (uA st 9 f) := rfl
theorem Rs_A10 (ad : Nat → Nat) (ca : Nat → ClassId) (st : SG) (f : Nat → Int32) : (Rw ad ca st).set 11 (ad 11, .inl (ca 10, 600, .inl f)) = Rw ad ca (uA st 10 f) := rfl
theorem Rs_A11 (ad : Nat → Nat) (ca : Nat → ClassId) (st : SG) (f : Nat → Int32) : (Rw ad ca st).set 12 (ad 12, .inl (ca 11, 600, .inl f)) = Rw ad ca (uA st 11 f) := rfl
theorem Rs_A12 (ad : Nat → Nat) (ca : Nat → ClassId) (st : SG) (f : Nat → Int32) : (Rw ad ca st).set 13 (ad 13, .inl (ca 12, 30, .inl f)) = Rw ad ca (uA st 12 f) := rfl
