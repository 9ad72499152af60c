set_option maxHeartbeats 4000000 in
theorem step_6 {N : Nat} {x m : SG} {a : Int32} (hp : Pre N x m) (hc : gA m 0 (gI m 6).toNatClampNeg = 6) (ha : gA m 1 (gI m 6).toNatClampNeg = a) : StepOK N x m 6 a := by
  obtain ⟨hN, h, q1, q2, q3, q4, q5, q6, q7⟩ := id hp
  obtain ⟨hC, hA, hS, hG, hNo, hT, hK, e5, e6, e10⟩ := id h
  obtain ⟨c1, c2, c3, c4⟩ := id hC
  obtain ⟨a1, a2⟩ := id hA
  obtain ⟨s1, s2, s3, s4⟩ := id hS
  obtain ⟨n1, n2, n3, n4⟩ := id hNo
  by_cases b0 : gI m 2 = 4
  · obtain ⟨t1, t2, t3, t4, t5, t6, t7, t8, t9⟩ := thing_ok hT a2 (Or.inl b0)
    have t7 := t7 b0
    by_cases b1 : a < 0
    · simp (decide := true) only [xst, fX_ValueMachine_perform, fX_ValueMachine_takeField, fX_Value_sortOf, fX_Value_numberOf, fX_Store_hasPart, fX_Store_sizeOf, fX_Store_part, fX_ValueMachine_accept, fR_ValueMachineModel_step, fR_ValueMachineModel_loads, fR_ValueMachineModel_isAcc, fR_ValueMachineModel_needs, fR_ValueMachineModel_acc, StepOK, gb_id, gb_eta, gb_gb, hc, ha, q6, q3, c1, a1, s1, n1, Wp_some, gb_ok, z_0, z_1, z_00, z_01, z_10, z_11, vn_0, vn_1, not_true_eq_false, not_false_eq_true, false_or, or_self, pk_sort, pk_num, x_of, x_integer, x_truth0, x_truth1, gI_uI, gI_uL, gI_uA, gI_uB, gL_uI, gL_uL, gL_uA, gL_uB, gA_uI, gA_uL, gA_uA, gA_uB, gB_uI, gB_uL, gB_uA, gB_uB, Nat.reduceEqDiff, ↓reduceIte, b0, b1]
      exact fault_ok2 hp h ⟨q1, q2, rfl, rfl, rfl, rfl, rfl, rfl, rfl⟩ rfl (VOk_3 _)
    · by_cases b2 : 16 ≤ a
      · simp (decide := true) only [xst, fX_ValueMachine_perform, fX_ValueMachine_takeField, fX_Value_sortOf, fX_Value_numberOf, fX_Store_hasPart, fX_Store_sizeOf, fX_Store_part, fX_ValueMachine_accept, fR_ValueMachineModel_step, fR_ValueMachineModel_loads, fR_ValueMachineModel_isAcc, fR_ValueMachineModel_needs, fR_ValueMachineModel_acc, StepOK, gb_id, gb_eta, gb_gb, hc, ha, q6, q3, c1, a1, s1, n1, Wp_some, gb_ok, z_0, z_1, z_00, z_01, z_10, z_11, vn_0, vn_1, not_true_eq_false, not_false_eq_true, false_or, or_self, pk_sort, pk_num, x_of, x_integer, x_truth0, x_truth1, gI_uI, gI_uL, gI_uA, gI_uB, gL_uI, gL_uL, gL_uA, gL_uB, gA_uI, gA_uL, gA_uA, gA_uB, gB_uI, gB_uL, gB_uA, gB_uB, Nat.reduceEqDiff, ↓reduceIte, b0, b1, b2, t1, t2, t4, t7]
        exact fault_ok2 hp h ⟨q1, q2, rfl, rfl, rfl, rfl, rfl, rfl, rfl⟩ rfl (VOk_3 _)
      · obtain ⟨p1, p2, p3, p4, p5, p6, p7, p8⟩ := part_ok hK t8 t9 t3 t6 b1 (by rw [t7]; exact b2)
        simp (decide := true) only [xst, fX_ValueMachine_perform, fX_ValueMachine_takeField, fX_Value_sortOf, fX_Value_numberOf, fX_Store_hasPart, fX_Store_sizeOf, fX_Store_part, fX_ValueMachine_accept, fR_ValueMachineModel_step, fR_ValueMachineModel_loads, fR_ValueMachineModel_isAcc, fR_ValueMachineModel_needs, fR_ValueMachineModel_acc, StepOK, gb_id, gb_eta, gb_gb, hc, ha, q6, q3, c1, a1, s1, n1, Wp_some, gb_ok, z_0, z_1, z_00, z_01, z_10, z_11, vn_0, vn_1, not_true_eq_false, not_false_eq_true, false_or, or_self, pk_sort, pk_num, x_of, x_integer, x_truth0, x_truth1, gI_uI, gI_uL, gI_uA, gI_uB, gL_uI, gL_uL, gL_uA, gL_uB, gA_uI, gA_uL, gA_uA, gA_uB, gB_uI, gB_uL, gB_uA, gB_uB, Nat.reduceEqDiff, ↓reduceIte, b0, b1, b2, t1, t2, t4, t7, p1, p2, p3, p4, p5, p6]
        exact acc_ok hp p7 rfl
  · by_cases b1 : a < 0
    · simp (decide := true) only [xst, fX_ValueMachine_perform, fX_ValueMachine_takeField, fX_Value_sortOf, fX_Value_numberOf, fX_Store_hasPart, fX_Store_sizeOf, fX_Store_part, fX_ValueMachine_accept, fR_ValueMachineModel_step, fR_ValueMachineModel_loads, fR_ValueMachineModel_isAcc, fR_ValueMachineModel_needs, fR_ValueMachineModel_acc, StepOK, gb_id, gb_eta, gb_gb, hc, ha, q6, q3, c1, a1, s1, n1, Wp_some, gb_ok, z_0, z_1, z_00, z_01, z_10, z_11, vn_0, vn_1, not_true_eq_false, not_false_eq_true, false_or, or_self, pk_sort, pk_num, x_of, x_integer, x_truth0, x_truth1, gI_uI, gI_uL, gI_uA, gI_uB, gL_uI, gL_uL, gL_uA, gL_uB, gA_uI, gA_uL, gA_uA, gA_uB, gB_uI, gB_uL, gB_uA, gB_uB, Nat.reduceEqDiff, ↓reduceIte, b0, b1]
      exact fault_ok2 hp h ⟨q1, q2, rfl, rfl, rfl, rfl, rfl, rfl, rfl⟩ rfl (VOk_3 _)
    · by_cases b2 : 16 ≤ a
      · simp (decide := true) only [xst, fX_ValueMachine_perform, fX_ValueMachine_takeField, fX_Value_sortOf, fX_Value_numberOf, fX_Store_hasPart, fX_Store_sizeOf, fX_Store_part, fX_ValueMachine_accept, fR_ValueMachineModel_step, fR_ValueMachineModel_loads, fR_ValueMachineModel_isAcc, fR_ValueMachineModel_needs, fR_ValueMachineModel_acc, StepOK, gb_id, gb_eta, gb_gb, hc, ha, q6, q3, c1, a1, s1, n1, Wp_some, gb_ok, z_0, z_1, z_00, z_01, z_10, z_11, vn_0, vn_1, not_true_eq_false, not_false_eq_true, false_or, or_self, pk_sort, pk_num, x_of, x_integer, x_truth0, x_truth1, gI_uI, gI_uL, gI_uA, gI_uB, gL_uI, gL_uL, gL_uA, gL_uB, gA_uI, gA_uL, gA_uA, gA_uB, gB_uI, gB_uL, gB_uA, gB_uB, Nat.reduceEqDiff, ↓reduceIte, b0, b1, b2]
        exact fault_ok2 hp h ⟨q1, q2, rfl, rfl, rfl, rfl, rfl, rfl, rfl⟩ rfl (VOk_3 _)
      · simp (decide := true) only [xst, fX_ValueMachine_perform, fX_ValueMachine_takeField, fX_Value_sortOf, fX_Value_numberOf, fX_Store_hasPart, fX_Store_sizeOf, fX_Store_part, fX_ValueMachine_accept, fR_ValueMachineModel_step, fR_ValueMachineModel_loads, fR_ValueMachineModel_isAcc, fR_ValueMachineModel_needs, fR_ValueMachineModel_acc, StepOK, gb_id, gb_eta, gb_gb, hc, ha, q6, q3, c1, a1, s1, n1, Wp_some, gb_ok, z_0, z_1, z_00, z_01, z_10, z_11, vn_0, vn_1, not_true_eq_false, not_false_eq_true, false_or, or_self, pk_sort, pk_num, x_of, x_integer, x_truth0, x_truth1, gI_uI, gI_uL, gI_uA, gI_uB, gL_uI, gL_uL, gL_uA, gL_uB, gA_uI, gA_uL, gA_uA, gA_uB, gB_uI, gB_uL, gB_uA, gB_uB, Nat.reduceEqDiff, ↓reduceIte, b0, b1, b2]
        exact fault_ok2 hp h ⟨q1, q2, rfl, rfl, rfl, rfl, rfl, rfl, rfl⟩ rfl (VOk_3 _)

set_option maxHeartbeats 4000000 in
theorem step_7 {N : Nat} {x m : SG} {a : Int32} (hp : Pre N x m) (hc : gA m 0 (gI m 6).toNatClampNeg = 7) (ha : gA m 1 (gI m 6).toNatClampNeg = a) : StepOK N x m 7 a := by
  obtain ⟨hN, h, q1, q2, q3, q4, q5, q6, q7⟩ := id hp
  obtain ⟨hC, hA, hS, hG, hNo, hT, hK, e5, e6, e10⟩ := id h
  obtain ⟨c1, c2, c3, c4⟩ := id hC
  obtain ⟨a1, a2⟩ := id hA
  obtain ⟨s1, s2, s3, s4⟩ := id hS
  obtain ⟨n1, n2, n3, n4⟩ := id hNo
  by_cases b0 : gI m 4 < 1
  · simp (decide := true) only [xst, fX_ValueMachine_perform, fX_ValueMachine_takeElement, fX_ValueStack_holds, fX_ValueStack_at, fX_ValueMachine_elementFault, fX_Value_sortOf, fX_Value_numberOf, fX_Store_hasPart, fX_Store_sizeOf, fX_Store_part, fX_ValueMachine_acceptForTop, fX_ValueStack_drop, fX_ValueMachine_accept, fR_ValueMachineModel_step, fR_ValueMachineModel_loads, fR_ValueMachineModel_element, fR_ValueMachineModel_has, fR_ValueMachineModel_isSort, fR_ValueMachineModel_isAcc, fR_ValueMachineModel_needs, fR_ValueMachineModel_acc, fR_ValueMachineModel_deep, StepOK, gb_id, gb_eta, gb_gb, hc, ha, q6, q3, c1, a1, s1, n1, Wp_some, gb_ok, z_0, z_1, z_00, z_01, z_10, z_11, vn_0, vn_1, not_true_eq_false, not_false_eq_true, false_or, or_self, pk_sort, pk_num, x_of, x_integer, x_truth0, x_truth1, gI_uI, gI_uL, gI_uA, gI_uB, gL_uI, gL_uL, gL_uA, gL_uB, gA_uI, gA_uL, gA_uA, gA_uB, gB_uI, gB_uL, gB_uA, gB_uB, Nat.reduceEqDiff, ↓reduceIte, b0]
    exact fault_ok2 hp h ⟨q1, q2, rfl, rfl, rfl, rfl, rfl, rfl, rfl⟩ rfl (VOk_3 _)
  · have b0' : ¬ gI m 4 ≤ 0 := by
      rw [ti_lt, show (1 : Int32).toInt = 1 from rfl] at b0
      rw [ti_le, show (0 : Int32).toInt = 0 from rfl]; omega
    obtain ⟨i1, i2, i3, i4⟩ := deep_ok (a := 0) hS (by decide) b0'
    by_cases b3 : gA m 2 (gI m 4 - 1 - 0).toNatClampNeg = 5
    · by_cases b4 : gI m 2 = 3
      · obtain ⟨t1, t2, t3, t4, t5, t6, t7, t8, t9⟩ := thing_ok hT i3 (Or.inr b3)
        by_cases b1 : gI m 3 < 0
        · simp (decide := true) only [xst, fX_ValueMachine_perform, fX_ValueMachine_takeElement, fX_ValueStack_holds, fX_ValueStack_at, fX_ValueMachine_elementFault, fX_Value_sortOf, fX_Value_numberOf, fX_Store_hasPart, fX_Store_sizeOf, fX_Store_part, fX_ValueMachine_acceptForTop, fX_ValueStack_drop, fX_ValueMachine_accept, fR_ValueMachineModel_step, fR_ValueMachineModel_loads, fR_ValueMachineModel_element, fR_ValueMachineModel_has, fR_ValueMachineModel_isSort, fR_ValueMachineModel_isAcc, fR_ValueMachineModel_needs, fR_ValueMachineModel_acc, fR_ValueMachineModel_deep, StepOK, gb_id, gb_eta, gb_gb, hc, ha, q6, q3, c1, a1, s1, n1, Wp_some, gb_ok, z_0, z_1, z_00, z_01, z_10, z_11, vn_0, vn_1, not_true_eq_false, not_false_eq_true, false_or, or_self, pk_sort, pk_num, x_of, x_integer, x_truth0, x_truth1, gI_uI, gI_uL, gI_uA, gI_uB, gL_uI, gL_uL, gL_uA, gL_uB, gA_uI, gA_uL, gA_uA, gA_uB, gB_uI, gB_uL, gB_uA, gB_uB, Nat.reduceEqDiff, ↓reduceIte, b0, i1, i2, b3, b4, b1]
          exact fault_ok2 hp h ⟨q1, q2, rfl, rfl, rfl, rfl, rfl, rfl, rfl⟩ rfl (VOk_3 _)
        · by_cases b2 : gA m 9 (gA m 3 (gI m 4 - 1 - 0).toNatClampNeg).toNatClampNeg ≤ gI m 3
          · simp (decide := true) only [xst, fX_ValueMachine_perform, fX_ValueMachine_takeElement, fX_ValueStack_holds, fX_ValueStack_at, fX_ValueMachine_elementFault, fX_Value_sortOf, fX_Value_numberOf, fX_Store_hasPart, fX_Store_sizeOf, fX_Store_part, fX_ValueMachine_acceptForTop, fX_ValueStack_drop, fX_ValueMachine_accept, fR_ValueMachineModel_step, fR_ValueMachineModel_loads, fR_ValueMachineModel_element, fR_ValueMachineModel_has, fR_ValueMachineModel_isSort, fR_ValueMachineModel_isAcc, fR_ValueMachineModel_needs, fR_ValueMachineModel_acc, fR_ValueMachineModel_deep, StepOK, gb_id, gb_eta, gb_gb, hc, ha, q6, q3, c1, a1, s1, n1, Wp_some, gb_ok, z_0, z_1, z_00, z_01, z_10, z_11, vn_0, vn_1, not_true_eq_false, not_false_eq_true, false_or, or_self, pk_sort, pk_num, x_of, x_integer, x_truth0, x_truth1, gI_uI, gI_uL, gI_uA, gI_uB, gL_uI, gL_uL, gL_uA, gL_uB, gA_uI, gA_uL, gA_uA, gA_uB, gB_uI, gB_uL, gB_uA, gB_uB, Nat.reduceEqDiff, ↓reduceIte, b0, i1, i2, b3, b4, b1, b2, t1, t2, t4]
            exact fault_ok2 hp h ⟨q1, q2, rfl, rfl, rfl, rfl, rfl, rfl, rfl⟩ rfl (VOk_3 _)
          · obtain ⟨p1, p2, p3, p4, p5, p6, p7, p8⟩ := part_ok hK t8 t9 t3 t6 b1 b2
            simp (decide := true) only [xst, fX_ValueMachine_perform, fX_ValueMachine_takeElement, fX_ValueStack_holds, fX_ValueStack_at, fX_ValueMachine_elementFault, fX_Value_sortOf, fX_Value_numberOf, fX_Store_hasPart, fX_Store_sizeOf, fX_Store_part, fX_ValueMachine_acceptForTop, fX_ValueStack_drop, fX_ValueMachine_accept, fR_ValueMachineModel_step, fR_ValueMachineModel_loads, fR_ValueMachineModel_element, fR_ValueMachineModel_has, fR_ValueMachineModel_isSort, fR_ValueMachineModel_isAcc, fR_ValueMachineModel_needs, fR_ValueMachineModel_acc, fR_ValueMachineModel_deep, StepOK, gb_id, gb_eta, gb_gb, hc, ha, q6, q3, c1, a1, s1, n1, Wp_some, gb_ok, z_0, z_1, z_00, z_01, z_10, z_11, vn_0, vn_1, not_true_eq_false, not_false_eq_true, false_or, or_self, pk_sort, pk_num, x_of, x_integer, x_truth0, x_truth1, gI_uI, gI_uL, gI_uA, gI_uB, gL_uI, gL_uL, gL_uA, gL_uB, gA_uI, gA_uL, gA_uA, gA_uB, gB_uI, gB_uL, gB_uA, gB_uB, Nat.reduceEqDiff, ↓reduceIte, b0, i1, i2, b3, b4, b1, b2, t1, t2, t4, p1, p2, p3, p4, p5, p6]
            exact ⟨⟨hC, ⟨rfl, p7⟩, spop_ok hS (by decide) b0, hG, hNo, hT, hK, e5, e6, e10⟩, adv hp, ⟨q1.trans q2.symm, Or.inl q2⟩, rfl, rfl, rfl, rfl, rfl, rfl⟩
      · simp (decide := true) only [xst, fX_ValueMachine_perform, fX_ValueMachine_takeElement, fX_ValueStack_holds, fX_ValueStack_at, fX_ValueMachine_elementFault, fX_Value_sortOf, fX_Value_numberOf, fX_Store_hasPart, fX_Store_sizeOf, fX_Store_part, fX_ValueMachine_acceptForTop, fX_ValueStack_drop, fX_ValueMachine_accept, fR_ValueMachineModel_step, fR_ValueMachineModel_loads, fR_ValueMachineModel_element, fR_ValueMachineModel_has, fR_ValueMachineModel_isSort, fR_ValueMachineModel_isAcc, fR_ValueMachineModel_needs, fR_ValueMachineModel_acc, fR_ValueMachineModel_deep, StepOK, gb_id, gb_eta, gb_gb, hc, ha, q6, q3, c1, a1, s1, n1, Wp_some, gb_ok, z_0, z_1, z_00, z_01, z_10, z_11, vn_0, vn_1, not_true_eq_false, not_false_eq_true, false_or, or_self, pk_sort, pk_num, x_of, x_integer, x_truth0, x_truth1, gI_uI, gI_uL, gI_uA, gI_uB, gL_uI, gL_uL, gL_uA, gL_uB, gA_uI, gA_uL, gA_uA, gA_uB, gB_uI, gB_uL, gB_uA, gB_uB, Nat.reduceEqDiff, ↓reduceIte, b0, i1, i2, b3, b4]
        exact fault_ok2 hp h ⟨q1, q2, rfl, rfl, rfl, rfl, rfl, rfl, rfl⟩ rfl (VOk_3 _)
    · by_cases b4 : gI m 2 = 3
      · simp (decide := true) only [xst, fX_ValueMachine_perform, fX_ValueMachine_takeElement, fX_ValueStack_holds, fX_ValueStack_at, fX_ValueMachine_elementFault, fX_Value_sortOf, fX_Value_numberOf, fX_Store_hasPart, fX_Store_sizeOf, fX_Store_part, fX_ValueMachine_acceptForTop, fX_ValueStack_drop, fX_ValueMachine_accept, fR_ValueMachineModel_step, fR_ValueMachineModel_loads, fR_ValueMachineModel_element, fR_ValueMachineModel_has, fR_ValueMachineModel_isSort, fR_ValueMachineModel_isAcc, fR_ValueMachineModel_needs, fR_ValueMachineModel_acc, fR_ValueMachineModel_deep, StepOK, gb_id, gb_eta, gb_gb, hc, ha, q6, q3, c1, a1, s1, n1, Wp_some, gb_ok, z_0, z_1, z_00, z_01, z_10, z_11, vn_0, vn_1, not_true_eq_false, not_false_eq_true, false_or, or_self, pk_sort, pk_num, x_of, x_integer, x_truth0, x_truth1, gI_uI, gI_uL, gI_uA, gI_uB, gL_uI, gL_uL, gL_uA, gL_uB, gA_uI, gA_uL, gA_uA, gA_uB, gB_uI, gB_uL, gB_uA, gB_uB, Nat.reduceEqDiff, ↓reduceIte, b0, i1, i2, b3, b4]
        exact fault_ok2 hp h ⟨q1, q2, rfl, rfl, rfl, rfl, rfl, rfl, rfl⟩ rfl (VOk_3 _)
      · simp (decide := true) only [xst, fX_ValueMachine_perform, fX_ValueMachine_takeElement, fX_ValueStack_holds, fX_ValueStack_at, fX_ValueMachine_elementFault, fX_Value_sortOf, fX_Value_numberOf, fX_Store_hasPart, fX_Store_sizeOf, fX_Store_part, fX_ValueMachine_acceptForTop, fX_ValueStack_drop, fX_ValueMachine_accept, fR_ValueMachineModel_step, fR_ValueMachineModel_loads, fR_ValueMachineModel_element, fR_ValueMachineModel_has, fR_ValueMachineModel_isSort, fR_ValueMachineModel_isAcc, fR_ValueMachineModel_needs, fR_ValueMachineModel_acc, fR_ValueMachineModel_deep, StepOK, gb_id, gb_eta, gb_gb, hc, ha, q6, q3, c1, a1, s1, n1, Wp_some, gb_ok, z_0, z_1, z_00, z_01, z_10, z_11, vn_0, vn_1, not_true_eq_false, not_false_eq_true, false_or, or_self, pk_sort, pk_num, x_of, x_integer, x_truth0, x_truth1, gI_uI, gI_uL, gI_uA, gI_uB, gL_uI, gL_uL, gL_uA, gL_uB, gA_uI, gA_uL, gA_uA, gA_uB, gB_uI, gB_uL, gB_uA, gB_uB, Nat.reduceEqDiff, ↓reduceIte, b0, i1, i2, b3, b4]
        exact fault_ok2 hp h ⟨q1, q2, rfl, rfl, rfl, rfl, rfl, rfl, rfl⟩ rfl (VOk_3 _)

set_option maxHeartbeats 4000000 in
theorem step_8 {N : Nat} {x m : SG} {a : Int32} (hp : Pre N x m) (hc : gA m 0 (gI m 6).toNatClampNeg = 8) (ha : gA m 1 (gI m 6).toNatClampNeg = a) : StepOK N x m 8 a := by
  obtain ⟨hN, h, q1, q2, q3, q4, q5, q6, q7⟩ := id hp
  obtain ⟨hC, hA, hS, hG, hNo, hT, hK, e5, e6, e10⟩ := id h
  obtain ⟨c1, c2, c3, c4⟩ := id hC
  obtain ⟨a1, a2⟩ := id hA
  obtain ⟨s1, s2, s3, s4⟩ := id hS
  obtain ⟨n1, n2, n3, n4⟩ := id hNo
  by_cases b0 : gI m 2 = 5
  · obtain ⟨t1, t2, t3, t4, t5, t6, t7, t8, t9⟩ := thing_ok hT a2 (Or.inr b0)
    simp (decide := true) only [xst, fX_ValueMachine_perform, fX_ValueMachine_takeSize, fX_Value_sortOf, fX_Value_numberOf, fX_Store_sizeOf, fX_ValueMachine_accept, fR_ValueMachineModel_step, fR_ValueMachineModel_loads, fR_ValueMachineModel_isAcc, fR_ValueMachineModel_needs, fR_ValueMachineModel_acc, StepOK, gb_id, gb_eta, gb_gb, hc, ha, q6, q3, c1, a1, s1, n1, Wp_some, gb_ok, z_0, z_1, z_00, z_01, z_10, z_11, vn_0, vn_1, not_true_eq_false, not_false_eq_true, false_or, or_self, pk_sort, pk_num, x_of, x_integer, x_truth0, x_truth1, gI_uI, gI_uL, gI_uA, gI_uB, gL_uI, gL_uL, gL_uA, gL_uB, gA_uI, gA_uL, gA_uA, gA_uB, gB_uI, gB_uL, gB_uA, gB_uB, Nat.reduceEqDiff, ↓reduceIte, b0, t1, t2, t4]
    exact acc_ok hp (VOk_3 _) rfl
  · simp (decide := true) only [xst, fX_ValueMachine_perform, fX_ValueMachine_takeSize, fX_Value_sortOf, fX_Value_numberOf, fX_Store_sizeOf, fX_ValueMachine_accept, fR_ValueMachineModel_step, fR_ValueMachineModel_loads, fR_ValueMachineModel_isAcc, fR_ValueMachineModel_needs, fR_ValueMachineModel_acc, StepOK, gb_id, gb_eta, gb_gb, hc, ha, q6, q3, c1, a1, s1, n1, Wp_some, gb_ok, z_0, z_1, z_00, z_01, z_10, z_11, vn_0, vn_1, not_true_eq_false, not_false_eq_true, false_or, or_self, pk_sort, pk_num, x_of, x_integer, x_truth0, x_truth1, gI_uI, gI_uL, gI_uA, gI_uB, gL_uI, gL_uL, gL_uA, gL_uB, gA_uI, gA_uL, gA_uA, gA_uB, gB_uI, gB_uL, gB_uA, gB_uB, Nat.reduceEqDiff, ↓reduceIte, b0]
    exact fault_ok2 hp h ⟨q1, q2, rfl, rfl, rfl, rfl, rfl, rfl, rfl⟩ rfl (VOk_3 _)

set_option maxHeartbeats 4000000 in
theorem step_9 {N : Nat} {x m : SG} {a : Int32} (hp : Pre N x m) (hc : gA m 0 (gI m 6).toNatClampNeg = 9) (ha : gA m 1 (gI m 6).toNatClampNeg = a) : StepOK N x m 9 a := by
  obtain ⟨hN, h, q1, q2, q3, q4, q5, q6, q7⟩ := id hp
  obtain ⟨hC, hA, hS, hG, hNo, hT, hK, e5, e6, e10⟩ := id h
  obtain ⟨c1, c2, c3, c4⟩ := id hC
  obtain ⟨a1, a2⟩ := id hA
  obtain ⟨s1, s2, s3, s4⟩ := id hS
  obtain ⟨n1, n2, n3, n4⟩ := id hNo
  by_cases b1 : a < 0
  · simp (decide := true) only [xst, fX_ValueMachine_perform, fX_ValueMachine_setStack, fX_ValueStack_reaches, fX_ValueStack_set, fR_ValueMachineModel_step, fR_ValueMachineModel_stores, fR_ValueMachineModel_needs, fR_ValueMachineModel_deep, StepOK, gb_id, gb_eta, gb_gb, hc, ha, q6, q3, c1, a1, s1, n1, Wp_some, gb_ok, z_0, z_1, z_00, z_01, z_10, z_11, vn_0, vn_1, not_true_eq_false, not_false_eq_true, false_or, or_self, pk_sort, pk_num, x_of, x_integer, x_truth0, x_truth1, gI_uI, gI_uL, gI_uA, gI_uB, gL_uI, gL_uL, gL_uA, gL_uB, gA_uI, gA_uL, gA_uA, gA_uB, gB_uI, gB_uL, gB_uA, gB_uB, Nat.reduceEqDiff, ↓reduceIte, b1]
    exact fault_ok2 hp h ⟨q1, q2, rfl, rfl, rfl, rfl, rfl, rfl, rfl⟩ rfl (VOk_3 _)
  · by_cases b2 : gI m 4 ≤ a
    · simp (decide := true) only [xst, fX_ValueMachine_perform, fX_ValueMachine_setStack, fX_ValueStack_reaches, fX_ValueStack_set, fR_ValueMachineModel_step, fR_ValueMachineModel_stores, fR_ValueMachineModel_needs, fR_ValueMachineModel_deep, StepOK, gb_id, gb_eta, gb_gb, hc, ha, q6, q3, c1, a1, s1, n1, Wp_some, gb_ok, z_0, z_1, z_00, z_01, z_10, z_11, vn_0, vn_1, not_true_eq_false, not_false_eq_true, false_or, or_self, pk_sort, pk_num, x_of, x_integer, x_truth0, x_truth1, gI_uI, gI_uL, gI_uA, gI_uB, gL_uI, gL_uL, gL_uA, gL_uB, gA_uI, gA_uL, gA_uA, gA_uB, gB_uI, gB_uL, gB_uA, gB_uB, Nat.reduceEqDiff, ↓reduceIte, b1, b2]
      exact fault_ok2 hp h ⟨q1, q2, rfl, rfl, rfl, rfl, rfl, rfl, rfl⟩ rfl (VOk_3 _)
    · obtain ⟨i1, i2, i3, i4⟩ := deep_ok hS b1 b2
      simp (decide := true) only [xst, fX_ValueMachine_perform, fX_ValueMachine_setStack, fX_ValueStack_reaches, fX_ValueStack_set, fR_ValueMachineModel_step, fR_ValueMachineModel_stores, fR_ValueMachineModel_needs, fR_ValueMachineModel_deep, StepOK, gb_id, gb_eta, gb_gb, hc, ha, q6, q3, c1, a1, s1, n1, Wp_some, gb_ok, z_0, z_1, z_00, z_01, z_10, z_11, vn_0, vn_1, not_true_eq_false, not_false_eq_true, false_or, or_self, pk_sort, pk_num, x_of, x_integer, x_truth0, x_truth1, gI_uI, gI_uL, gI_uA, gI_uB, gL_uI, gL_uL, gL_uA, gL_uB, gA_uI, gA_uL, gA_uA, gA_uB, gB_uI, gB_uL, gB_uA, gB_uB, Nat.reduceEqDiff, ↓reduceIte, b1, b2, i1]
      exact ⟨⟨hC, hA, sset_ok (s1 ▸ hS) _ a2, hG, hNo, hT, hK, e5, e6, e10⟩, adv hp, ⟨q1.trans q2.symm, Or.inl q2⟩, rfl, rfl, rfl, rfl, rfl, rfl⟩

set_option maxHeartbeats 4000000 in
theorem step_10 {N : Nat} {x m : SG} {a : Int32} (hp : Pre N x m) (hc : gA m 0 (gI m 6).toNatClampNeg = 10) (ha : gA m 1 (gI m 6).toNatClampNeg = a) : StepOK N x m 10 a := by
  obtain ⟨hN, h, q1, q2, q3, q4, q5, q6, q7⟩ := id hp
  obtain ⟨hC, hA, hS, hG, hNo, hT, hK, e5, e6, e10⟩ := id h
  obtain ⟨c1, c2, c3, c4⟩ := id hC
  obtain ⟨a1, a2⟩ := id hA
  obtain ⟨s1, s2, s3, s4⟩ := id hS
  obtain ⟨n1, n2, n3, n4⟩ := id hNo
  by_cases b1 : a < 0
  · simp (decide := true) only [xst, fX_ValueMachine_perform, fX_ValueMachine_setGlobal, fX_ValueMachine_isGlobal, fR_ValueMachineModel_step, fR_ValueMachineModel_stores, fR_ValueMachineModel_needs, StepOK, gb_id, gb_eta, gb_gb, hc, ha, q6, q3, c1, a1, s1, n1, Wp_some, gb_ok, z_0, z_1, z_00, z_01, z_10, z_11, vn_0, vn_1, not_true_eq_false, not_false_eq_true, false_or, or_self, pk_sort, pk_num, x_of, x_integer, x_truth0, x_truth1, gI_uI, gI_uL, gI_uA, gI_uB, gL_uI, gL_uL, gL_uA, gL_uB, gA_uI, gA_uL, gA_uA, gA_uB, gB_uI, gB_uL, gB_uA, gB_uB, Nat.reduceEqDiff, ↓reduceIte, b1]
    exact fault_ok2 hp h ⟨q1, q2, rfl, rfl, rfl, rfl, rfl, rfl, rfl⟩ rfl (VOk_3 _)
  · by_cases b2 : 8 ≤ a
    · simp (decide := true) only [xst, fX_ValueMachine_perform, fX_ValueMachine_setGlobal, fX_ValueMachine_isGlobal, fR_ValueMachineModel_step, fR_ValueMachineModel_stores, fR_ValueMachineModel_needs, StepOK, gb_id, gb_eta, gb_gb, hc, ha, q6, q3, c1, a1, s1, n1, Wp_some, gb_ok, z_0, z_1, z_00, z_01, z_10, z_11, vn_0, vn_1, not_true_eq_false, not_false_eq_true, false_or, or_self, pk_sort, pk_num, x_of, x_integer, x_truth0, x_truth1, gI_uI, gI_uL, gI_uA, gI_uB, gL_uI, gL_uL, gL_uA, gL_uB, gA_uI, gA_uL, gA_uA, gA_uB, gB_uI, gB_uL, gB_uA, gB_uB, Nat.reduceEqDiff, ↓reduceIte, b1, b2]
      exact fault_ok2 hp h ⟨q1, q2, rfl, rfl, rfl, rfl, rfl, rfl, rfl⟩ rfl (VOk_3 _)
    · obtain ⟨i1, i2, i3⟩ := glob_ok hG b1 b2
      simp (decide := true) only [xst, fX_ValueMachine_perform, fX_ValueMachine_setGlobal, fX_ValueMachine_isGlobal, fR_ValueMachineModel_step, fR_ValueMachineModel_stores, fR_ValueMachineModel_needs, StepOK, gb_id, gb_eta, gb_gb, hc, ha, q6, q3, c1, a1, s1, n1, Wp_some, gb_ok, z_0, z_1, z_00, z_01, z_10, z_11, vn_0, vn_1, not_true_eq_false, not_false_eq_true, false_or, or_self, pk_sort, pk_num, x_of, x_integer, x_truth0, x_truth1, gI_uI, gI_uL, gI_uA, gI_uB, gL_uI, gL_uL, gL_uA, gL_uB, gA_uI, gA_uL, gA_uA, gA_uB, gB_uI, gB_uL, gB_uA, gB_uB, Nat.reduceEqDiff, ↓reduceIte, b1, b2, i1]
      exact ⟨⟨hC, hA, hS, gset_ok hG _ a2, hNo, hT, hK, e5, e6, e10⟩, adv hp, ⟨q1.trans q2.symm, Or.inl q2⟩, rfl, rfl, rfl, rfl, rfl, rfl⟩

set_option maxHeartbeats 4000000 in
theorem step_13 {N : Nat} {x m : SG} {a : Int32} (hp : Pre N x m) (hc : gA m 0 (gI m 6).toNatClampNeg = 13) (ha : gA m 1 (gI m 6).toNatClampNeg = a) : StepOK N x m 13 a := by
  obtain ⟨hN, h, q1, q2, q3, q4, q5, q6, q7⟩ := id hp
  obtain ⟨hC, hA, hS, hG, hNo, hT, hK, e5, e6, e10⟩ := id h
  obtain ⟨c1, c2, c3, c4⟩ := id hC
  obtain ⟨a1, a2⟩ := id hA
  obtain ⟨s1, s2, s3, s4⟩ := id hS
  obtain ⟨n1, n2, n3, n4⟩ := id hNo
  by_cases b1 : gI m 4 < 120
  · have b2 : ¬ 120 ≤ gI m 4 := by rw [ti_le]; rw [ti_lt] at b1; omega
    have i1 : ¬ (gI m 4 < 0 ∨ 120 ≤ (gI m 4).toNatClampNeg) := ti_in s2 (by rw [ti_lt, show (120 : Int32).toInt = 120 from rfl] at b1; omega)
    simp (decide := true) only [xst, fX_ValueMachine_perform, fX_ValueMachine_push, fX_ValueStack_isFull, fX_ValueStack_push, fR_ValueMachineModel_step, fR_ValueMachineModel_stores, fR_ValueMachineModel_needs, StepOK, gb_id, gb_eta, gb_gb, hc, ha, q6, q3, c1, a1, s1, n1, Wp_some, gb_ok, z_0, z_1, z_00, z_01, z_10, z_11, vn_0, vn_1, not_true_eq_false, not_false_eq_true, false_or, or_self, pk_sort, pk_num, x_of, x_integer, x_truth0, x_truth1, gI_uI, gI_uL, gI_uA, gI_uB, gL_uI, gL_uL, gL_uA, gL_uB, gA_uI, gA_uL, gA_uA, gA_uB, gB_uI, gB_uL, gB_uA, gB_uB, Nat.reduceEqDiff, ↓reduceIte, b1, b2, i1]
    exact ⟨⟨hC, hA, spush_ok hS a2 b1, hG, hNo, hT, hK, e5, e6, e10⟩, adv hp, ⟨q1.trans q2.symm, Or.inl q2⟩, rfl, rfl, rfl, rfl, rfl, rfl⟩
  · have b2 : 120 ≤ gI m 4 := by rw [ti_le]; rw [ti_lt] at b1; omega
    simp (decide := true) only [xst, fX_ValueMachine_perform, fX_ValueMachine_push, fX_ValueStack_isFull, fX_ValueStack_push, fR_ValueMachineModel_step, fR_ValueMachineModel_stores, fR_ValueMachineModel_needs, StepOK, gb_id, gb_eta, gb_gb, hc, ha, q6, q3, c1, a1, s1, n1, Wp_some, gb_ok, z_0, z_1, z_00, z_01, z_10, z_11, vn_0, vn_1, not_true_eq_false, not_false_eq_true, false_or, or_self, pk_sort, pk_num, x_of, x_integer, x_truth0, x_truth1, gI_uI, gI_uL, gI_uA, gI_uB, gL_uI, gL_uL, gL_uA, gL_uB, gA_uI, gA_uL, gA_uA, gA_uB, gB_uI, gB_uL, gB_uA, gB_uB, Nat.reduceEqDiff, ↓reduceIte, b1, b2]
    exact fault_ok2 hp h ⟨q1, q2, rfl, rfl, rfl, rfl, rfl, rfl, rfl⟩ rfl (VOk_3 _)

set_option maxHeartbeats 4000000 in
theorem step_14 {N : Nat} {x m : SG} {a : Int32} (hp : Pre N x m) (hc : gA m 0 (gI m 6).toNatClampNeg = 14) (ha : gA m 1 (gI m 6).toNatClampNeg = a) : StepOK N x m 14 a := by
  obtain ⟨hN, h, q1, q2, q3, q4, q5, q6, q7⟩ := id hp
  obtain ⟨hC, hA, hS, hG, hNo, hT, hK, e5, e6, e10⟩ := id h
  obtain ⟨c1, c2, c3, c4⟩ := id hC
  obtain ⟨a1, a2⟩ := id hA
  obtain ⟨s1, s2, s3, s4⟩ := id hS
  obtain ⟨n1, n2, n3, n4⟩ := id hNo
  by_cases b1 : a < 0
  · simp (decide := true) only [xst, fX_ValueMachine_perform, fX_ValueMachine_pop, fX_ValueStack_holds, fX_ValueStack_drop, fR_ValueMachineModel_step, fR_ValueMachineModel_stores, fR_ValueMachineModel_has, fR_ValueMachineModel_needs, StepOK, gb_id, gb_eta, gb_gb, hc, ha, q6, q3, c1, a1, s1, n1, Wp_some, gb_ok, z_0, z_1, z_00, z_01, z_10, z_11, vn_0, vn_1, not_true_eq_false, not_false_eq_true, false_or, or_self, pk_sort, pk_num, x_of, x_integer, x_truth0, x_truth1, gI_uI, gI_uL, gI_uA, gI_uB, gL_uI, gL_uL, gL_uA, gL_uB, gA_uI, gA_uL, gA_uA, gA_uB, gB_uI, gB_uL, gB_uA, gB_uB, Nat.reduceEqDiff, ↓reduceIte, b1]
    exact fault_ok2 hp h ⟨q1, q2, rfl, rfl, rfl, rfl, rfl, rfl, rfl⟩ rfl (VOk_3 _)
  · by_cases b2 : gI m 4 < a
    · simp (decide := true) only [xst, fX_ValueMachine_perform, fX_ValueMachine_pop, fX_ValueStack_holds, fX_ValueStack_drop, fR_ValueMachineModel_step, fR_ValueMachineModel_stores, fR_ValueMachineModel_has, fR_ValueMachineModel_needs, StepOK, gb_id, gb_eta, gb_gb, hc, ha, q6, q3, c1, a1, s1, n1, Wp_some, gb_ok, z_0, z_1, z_00, z_01, z_10, z_11, vn_0, vn_1, not_true_eq_false, not_false_eq_true, false_or, or_self, pk_sort, pk_num, x_of, x_integer, x_truth0, x_truth1, gI_uI, gI_uL, gI_uA, gI_uB, gL_uI, gL_uL, gL_uA, gL_uB, gA_uI, gA_uL, gA_uA, gA_uB, gB_uI, gB_uL, gB_uA, gB_uB, Nat.reduceEqDiff, ↓reduceIte, b1, b2]
      exact fault_ok2 hp h ⟨q1, q2, rfl, rfl, rfl, rfl, rfl, rfl, rfl⟩ rfl (VOk_3 _)
    · simp (decide := true) only [xst, fX_ValueMachine_perform, fX_ValueMachine_pop, fX_ValueStack_holds, fX_ValueStack_drop, fR_ValueMachineModel_step, fR_ValueMachineModel_stores, fR_ValueMachineModel_has, fR_ValueMachineModel_needs, StepOK, gb_id, gb_eta, gb_gb, hc, ha, q6, q3, c1, a1, s1, n1, Wp_some, gb_ok, z_0, z_1, z_00, z_01, z_10, z_11, vn_0, vn_1, not_true_eq_false, not_false_eq_true, false_or, or_self, pk_sort, pk_num, x_of, x_integer, x_truth0, x_truth1, gI_uI, gI_uL, gI_uA, gI_uB, gL_uI, gL_uL, gL_uA, gL_uB, gA_uI, gA_uL, gA_uA, gA_uB, gB_uI, gB_uL, gB_uA, gB_uB, Nat.reduceEqDiff, ↓reduceIte, b1, b2]
      exact ⟨⟨hC, hA, spop_ok hS b1 b2, hG, hNo, hT, hK, e5, e6, e10⟩, adv hp, ⟨q1.trans q2.symm, Or.inl q2⟩, rfl, rfl, rfl, rfl, rfl, rfl⟩

set_option maxHeartbeats 4000000 in
theorem step_15 {N : Nat} {x m : SG} {a : Int32} (hp : Pre N x m) (hc : gA m 0 (gI m 6).toNatClampNeg = 15) (ha : gA m 1 (gI m 6).toNatClampNeg = a) : StepOK N x m 15 a := by
  obtain ⟨hN, h, q1, q2, q3, q4, q5, q6, q7⟩ := id hp
  obtain ⟨hC, hA, hS, hG, hNo, hT, hK, e5, e6, e10⟩ := id h
  obtain ⟨c1, c2, c3, c4⟩ := id hC
  obtain ⟨a1, a2⟩ := id hA
  obtain ⟨s1, s2, s3, s4⟩ := id hS
  obtain ⟨n1, n2, n3, n4⟩ := id hNo
  by_cases b1 : a < 0
  · simp (decide := true) only [xst, fX_ValueMachine_perform, fX_ValueMachine_goIf, fX_Code_hasPlace, fR_ValueMachineModel_step, fR_ValueMachineModel_goes, fR_ValueMachineModel_isPlace, fR_ValueMachineModel_needs, StepOK, gb_id, gb_eta, gb_gb, hc, ha, q6, q3, c1, a1, s1, n1, Wp_some, gb_ok, z_0, z_1, z_00, z_01, z_10, z_11, vn_0, vn_1, not_true_eq_false, not_false_eq_true, false_or, or_self, pk_sort, pk_num, x_of, x_integer, x_truth0, x_truth1, gI_uI, gI_uL, gI_uA, gI_uB, gL_uI, gL_uL, gL_uA, gL_uB, gA_uI, gA_uL, gA_uA, gA_uB, gB_uI, gB_uL, gB_uA, gB_uB, Nat.reduceEqDiff, ↓reduceIte, b1]
    exact fault_ok2 hp h ⟨q1, q2, rfl, rfl, rfl, rfl, rfl, rfl, rfl⟩ rfl (VOk_3 _)
  · by_cases b2 : gI m 1 < a
    · simp (decide := true) only [xst, fX_ValueMachine_perform, fX_ValueMachine_goIf, fX_Code_hasPlace, fR_ValueMachineModel_step, fR_ValueMachineModel_goes, fR_ValueMachineModel_isPlace, fR_ValueMachineModel_needs, StepOK, gb_id, gb_eta, gb_gb, hc, ha, q6, q3, c1, a1, s1, n1, Wp_some, gb_ok, z_0, z_1, z_00, z_01, z_10, z_11, vn_0, vn_1, not_true_eq_false, not_false_eq_true, false_or, or_self, pk_sort, pk_num, x_of, x_integer, x_truth0, x_truth1, gI_uI, gI_uL, gI_uA, gI_uB, gL_uI, gL_uL, gL_uA, gL_uB, gA_uI, gA_uL, gA_uA, gA_uB, gB_uI, gB_uL, gB_uA, gB_uB, Nat.reduceEqDiff, ↓reduceIte, b1, b2]
      exact fault_ok2 hp h ⟨q1, q2, rfl, rfl, rfl, rfl, rfl, rfl, rfl⟩ rfl (VOk_3 _)
    · simp (decide := true) only [xst, fX_ValueMachine_perform, fX_ValueMachine_goIf, fX_Code_hasPlace, fR_ValueMachineModel_step, fR_ValueMachineModel_goes, fR_ValueMachineModel_isPlace, fR_ValueMachineModel_needs, StepOK, gb_id, gb_eta, gb_gb, hc, ha, q6, q3, c1, a1, s1, n1, Wp_some, gb_ok, z_0, z_1, z_00, z_01, z_10, z_11, vn_0, vn_1, not_true_eq_false, not_false_eq_true, false_or, or_self, pk_sort, pk_num, x_of, x_integer, x_truth0, x_truth1, gI_uI, gI_uL, gI_uA, gI_uB, gL_uI, gL_uL, gL_uA, gL_uB, gA_uI, gA_uL, gA_uA, gA_uB, gB_uI, gB_uL, gB_uA, gB_uB, Nat.reduceEqDiff, ↓reduceIte, b1, b2]
      exact ⟨⟨hC, hA, hS, hG, hNo, hT, hK, e5, e6, e10⟩, ⟨rfl, by rw [ti_lt, show (0 : Int32).toInt = 0 from rfl] at b1; exact Int.not_lt.mp b1, by rw [ti_lt] at b2; exact Int.not_lt.mp b2⟩, ⟨q1.trans q2.symm, Or.inl q2⟩, rfl, rfl, rfl, rfl, rfl, rfl⟩

set_option maxHeartbeats 4000000 in
theorem step_16 {N : Nat} {x m : SG} {a : Int32} (hp : Pre N x m) (hc : gA m 0 (gI m 6).toNatClampNeg = 16) (ha : gA m 1 (gI m 6).toNatClampNeg = a) : StepOK N x m 16 a := by
  obtain ⟨hN, h, q1, q2, q3, q4, q5, q6, q7⟩ := id hp
  obtain ⟨hC, hA, hS, hG, hNo, hT, hK, e5, e6, e10⟩ := id h
  obtain ⟨c1, c2, c3, c4⟩ := id hC
  obtain ⟨a1, a2⟩ := id hA
  obtain ⟨s1, s2, s3, s4⟩ := id hS
  obtain ⟨n1, n2, n3, n4⟩ := id hNo
  have ht := VOk_true a2
  by_cases b1 : a < 0
  · by_cases b0 : gI m 2 = 2
    · have hz := ht.mpr b0
      rw [b0] at hz
      simp (decide := true) only [xst, fX_ValueMachine_perform, fX_ValueMachine_goIf, fX_Code_hasPlace, fR_ValueMachineModel_step, fR_ValueMachineModel_goes, fR_ValueMachineModel_isPlace, fR_ValueMachineModel_needs, StepOK, gb_id, gb_eta, gb_gb, hc, ha, q6, q3, c1, a1, s1, n1, Wp_some, gb_ok, z_0, z_1, z_00, z_01, z_10, z_11, vn_0, vn_1, not_true_eq_false, not_false_eq_true, false_or, or_self, pk_sort, pk_num, x_of, x_integer, x_truth0, x_truth1, gI_uI, gI_uL, gI_uA, gI_uB, gL_uI, gL_uL, gL_uA, gL_uB, gA_uI, gA_uL, gA_uA, gA_uB, gB_uI, gB_uL, gB_uA, gB_uB, Nat.reduceEqDiff, ↓reduceIte, b1, hz, b0]
      exact fault_ok2 hp h ⟨q1, q2, rfl, rfl, rfl, rfl, rfl, rfl, rfl⟩ rfl (VOk_3 _)
    · simp (decide := true) only [xst, fX_ValueMachine_perform, fX_ValueMachine_goIf, fX_Code_hasPlace, fR_ValueMachineModel_step, fR_ValueMachineModel_goes, fR_ValueMachineModel_isPlace, fR_ValueMachineModel_needs, StepOK, gb_id, gb_eta, gb_gb, hc, ha, q6, q3, c1, a1, s1, n1, Wp_some, gb_ok, z_0, z_1, z_00, z_01, z_10, z_11, vn_0, vn_1, not_true_eq_false, not_false_eq_true, false_or, or_self, pk_sort, pk_num, x_of, x_integer, x_truth0, x_truth1, gI_uI, gI_uL, gI_uA, gI_uB, gL_uI, gL_uL, gL_uA, gL_uB, gA_uI, gA_uL, gA_uA, gA_uB, gB_uI, gB_uL, gB_uA, gB_uB, Nat.reduceEqDiff, ↓reduceIte, b1, ht, b0]
      exact fault_ok2 hp h ⟨q1, q2, rfl, rfl, rfl, rfl, rfl, rfl, rfl⟩ rfl (VOk_3 _)
  · by_cases b2 : gI m 1 < a
    · by_cases b0 : gI m 2 = 2
      · have hz := ht.mpr b0
        rw [b0] at hz
        simp (decide := true) only [xst, fX_ValueMachine_perform, fX_ValueMachine_goIf, fX_Code_hasPlace, fR_ValueMachineModel_step, fR_ValueMachineModel_goes, fR_ValueMachineModel_isPlace, fR_ValueMachineModel_needs, StepOK, gb_id, gb_eta, gb_gb, hc, ha, q6, q3, c1, a1, s1, n1, Wp_some, gb_ok, z_0, z_1, z_00, z_01, z_10, z_11, vn_0, vn_1, not_true_eq_false, not_false_eq_true, false_or, or_self, pk_sort, pk_num, x_of, x_integer, x_truth0, x_truth1, gI_uI, gI_uL, gI_uA, gI_uB, gL_uI, gL_uL, gL_uA, gL_uB, gA_uI, gA_uL, gA_uA, gA_uB, gB_uI, gB_uL, gB_uA, gB_uB, Nat.reduceEqDiff, ↓reduceIte, b1, b2, hz, b0]
        exact fault_ok2 hp h ⟨q1, q2, rfl, rfl, rfl, rfl, rfl, rfl, rfl⟩ rfl (VOk_3 _)
      · simp (decide := true) only [xst, fX_ValueMachine_perform, fX_ValueMachine_goIf, fX_Code_hasPlace, fR_ValueMachineModel_step, fR_ValueMachineModel_goes, fR_ValueMachineModel_isPlace, fR_ValueMachineModel_needs, StepOK, gb_id, gb_eta, gb_gb, hc, ha, q6, q3, c1, a1, s1, n1, Wp_some, gb_ok, z_0, z_1, z_00, z_01, z_10, z_11, vn_0, vn_1, not_true_eq_false, not_false_eq_true, false_or, or_self, pk_sort, pk_num, x_of, x_integer, x_truth0, x_truth1, gI_uI, gI_uL, gI_uA, gI_uB, gL_uI, gL_uL, gL_uA, gL_uB, gA_uI, gA_uL, gA_uA, gA_uB, gB_uI, gB_uL, gB_uA, gB_uB, Nat.reduceEqDiff, ↓reduceIte, b1, b2, ht, b0]
        exact fault_ok2 hp h ⟨q1, q2, rfl, rfl, rfl, rfl, rfl, rfl, rfl⟩ rfl (VOk_3 _)
    · by_cases b0 : gI m 2 = 2
      · have hz := ht.mpr b0
        rw [b0] at hz
        simp (decide := true) only [xst, fX_ValueMachine_perform, fX_ValueMachine_goIf, fX_Code_hasPlace, fR_ValueMachineModel_step, fR_ValueMachineModel_goes, fR_ValueMachineModel_isPlace, fR_ValueMachineModel_needs, StepOK, gb_id, gb_eta, gb_gb, hc, ha, q6, q3, c1, a1, s1, n1, Wp_some, gb_ok, z_0, z_1, z_00, z_01, z_10, z_11, vn_0, vn_1, not_true_eq_false, not_false_eq_true, false_or, or_self, pk_sort, pk_num, x_of, x_integer, x_truth0, x_truth1, gI_uI, gI_uL, gI_uA, gI_uB, gL_uI, gL_uL, gL_uA, gL_uB, gA_uI, gA_uL, gA_uA, gA_uB, gB_uI, gB_uL, gB_uA, gB_uB, Nat.reduceEqDiff, ↓reduceIte, b1, b2, hz, b0]
        exact ⟨⟨hC, hA, hS, hG, hNo, hT, hK, e5, e6, e10⟩, ⟨rfl, by rw [ti_lt, show (0 : Int32).toInt = 0 from rfl] at b1; exact Int.not_lt.mp b1, by rw [ti_lt] at b2; exact Int.not_lt.mp b2⟩, ⟨q1.trans q2.symm, Or.inl q2⟩, rfl, rfl, rfl, rfl, rfl, rfl⟩
      · simp (decide := true) only [xst, fX_ValueMachine_perform, fX_ValueMachine_goIf, fX_Code_hasPlace, fR_ValueMachineModel_step, fR_ValueMachineModel_goes, fR_ValueMachineModel_isPlace, fR_ValueMachineModel_needs, StepOK, gb_id, gb_eta, gb_gb, hc, ha, q6, q3, c1, a1, s1, n1, Wp_some, gb_ok, z_0, z_1, z_00, z_01, z_10, z_11, vn_0, vn_1, not_true_eq_false, not_false_eq_true, false_or, or_self, pk_sort, pk_num, x_of, x_integer, x_truth0, x_truth1, gI_uI, gI_uL, gI_uA, gI_uB, gL_uI, gL_uL, gL_uA, gL_uB, gA_uI, gA_uL, gA_uA, gA_uB, gB_uI, gB_uL, gB_uA, gB_uB, Nat.reduceEqDiff, ↓reduceIte, b1, b2, ht, b0]
        exact ⟨⟨hC, hA, hS, hG, hNo, hT, hK, e5, e6, e10⟩, adv hp, ⟨q1.trans q2.symm, Or.inl q2⟩, rfl, rfl, rfl, rfl, rfl, rfl⟩

set_option maxHeartbeats 4000000 in
theorem step_17 {N : Nat} {x m : SG} {a : Int32} (hp : Pre N x m) (hc : gA m 0 (gI m 6).toNatClampNeg = 17) (ha : gA m 1 (gI m 6).toNatClampNeg = a) : StepOK N x m 17 a := by
  obtain ⟨hN, h, q1, q2, q3, q4, q5, q6, q7⟩ := id hp
  obtain ⟨hC, hA, hS, hG, hNo, hT, hK, e5, e6, e10⟩ := id h
  obtain ⟨c1, c2, c3, c4⟩ := id hC
  obtain ⟨a1, a2⟩ := id hA
  obtain ⟨s1, s2, s3, s4⟩ := id hS
  obtain ⟨n1, n2, n3, n4⟩ := id hNo
  have ht := VOk_true a2
  by_cases b1 : a < 0
  · by_cases b0 : gI m 2 = 2
    · have hz := ht.mpr b0
      rw [b0] at hz
      simp (decide := true) only [xst, fX_ValueMachine_perform, fX_ValueMachine_goIf, fX_Code_hasPlace, fR_ValueMachineModel_step, fR_ValueMachineModel_goes, fR_ValueMachineModel_isPlace, fR_ValueMachineModel_needs, StepOK, gb_id, gb_eta, gb_gb, hc, ha, q6, q3, c1, a1, s1, n1, Wp_some, gb_ok, z_0, z_1, z_00, z_01, z_10, z_11, vn_0, vn_1, not_true_eq_false, not_false_eq_true, false_or, or_self, pk_sort, pk_num, x_of, x_integer, x_truth0, x_truth1, gI_uI, gI_uL, gI_uA, gI_uB, gL_uI, gL_uL, gL_uA, gL_uB, gA_uI, gA_uL, gA_uA, gA_uB, gB_uI, gB_uL, gB_uA, gB_uB, Nat.reduceEqDiff, ↓reduceIte, b1, hz, b0]
      exact fault_ok2 hp h ⟨q1, q2, rfl, rfl, rfl, rfl, rfl, rfl, rfl⟩ rfl (VOk_3 _)
    · simp (decide := true) only [xst, fX_ValueMachine_perform, fX_ValueMachine_goIf, fX_Code_hasPlace, fR_ValueMachineModel_step, fR_ValueMachineModel_goes, fR_ValueMachineModel_isPlace, fR_ValueMachineModel_needs, StepOK, gb_id, gb_eta, gb_gb, hc, ha, q6, q3, c1, a1, s1, n1, Wp_some, gb_ok, z_0, z_1, z_00, z_01, z_10, z_11, vn_0, vn_1, not_true_eq_false, not_false_eq_true, false_or, or_self, pk_sort, pk_num, x_of, x_integer, x_truth0, x_truth1, gI_uI, gI_uL, gI_uA, gI_uB, gL_uI, gL_uL, gL_uA, gL_uB, gA_uI, gA_uL, gA_uA, gA_uB, gB_uI, gB_uL, gB_uA, gB_uB, Nat.reduceEqDiff, ↓reduceIte, b1, ht, b0]
      exact fault_ok2 hp h ⟨q1, q2, rfl, rfl, rfl, rfl, rfl, rfl, rfl⟩ rfl (VOk_3 _)
  · by_cases b2 : gI m 1 < a
    · by_cases b0 : gI m 2 = 2
      · have hz := ht.mpr b0
        rw [b0] at hz
        simp (decide := true) only [xst, fX_ValueMachine_perform, fX_ValueMachine_goIf, fX_Code_hasPlace, fR_ValueMachineModel_step, fR_ValueMachineModel_goes, fR_ValueMachineModel_isPlace, fR_ValueMachineModel_needs, StepOK, gb_id, gb_eta, gb_gb, hc, ha, q6, q3, c1, a1, s1, n1, Wp_some, gb_ok, z_0, z_1, z_00, z_01, z_10, z_11, vn_0, vn_1, not_true_eq_false, not_false_eq_true, false_or, or_self, pk_sort, pk_num, x_of, x_integer, x_truth0, x_truth1, gI_uI, gI_uL, gI_uA, gI_uB, gL_uI, gL_uL, gL_uA, gL_uB, gA_uI, gA_uL, gA_uA, gA_uB, gB_uI, gB_uL, gB_uA, gB_uB, Nat.reduceEqDiff, ↓reduceIte, b1, b2, hz, b0]
        exact fault_ok2 hp h ⟨q1, q2, rfl, rfl, rfl, rfl, rfl, rfl, rfl⟩ rfl (VOk_3 _)
      · simp (decide := true) only [xst, fX_ValueMachine_perform, fX_ValueMachine_goIf, fX_Code_hasPlace, fR_ValueMachineModel_step, fR_ValueMachineModel_goes, fR_ValueMachineModel_isPlace, fR_ValueMachineModel_needs, StepOK, gb_id, gb_eta, gb_gb, hc, ha, q6, q3, c1, a1, s1, n1, Wp_some, gb_ok, z_0, z_1, z_00, z_01, z_10, z_11, vn_0, vn_1, not_true_eq_false, not_false_eq_true, false_or, or_self, pk_sort, pk_num, x_of, x_integer, x_truth0, x_truth1, gI_uI, gI_uL, gI_uA, gI_uB, gL_uI, gL_uL, gL_uA, gL_uB, gA_uI, gA_uL, gA_uA, gA_uB, gB_uI, gB_uL, gB_uA, gB_uB, Nat.reduceEqDiff, ↓reduceIte, b1, b2, ht, b0]
        exact fault_ok2 hp h ⟨q1, q2, rfl, rfl, rfl, rfl, rfl, rfl, rfl⟩ rfl (VOk_3 _)
    · by_cases b0 : gI m 2 = 2
      · have hz := ht.mpr b0
        rw [b0] at hz
        simp (decide := true) only [xst, fX_ValueMachine_perform, fX_ValueMachine_goIf, fX_Code_hasPlace, fR_ValueMachineModel_step, fR_ValueMachineModel_goes, fR_ValueMachineModel_isPlace, fR_ValueMachineModel_needs, StepOK, gb_id, gb_eta, gb_gb, hc, ha, q6, q3, c1, a1, s1, n1, Wp_some, gb_ok, z_0, z_1, z_00, z_01, z_10, z_11, vn_0, vn_1, not_true_eq_false, not_false_eq_true, false_or, or_self, pk_sort, pk_num, x_of, x_integer, x_truth0, x_truth1, gI_uI, gI_uL, gI_uA, gI_uB, gL_uI, gL_uL, gL_uA, gL_uB, gA_uI, gA_uL, gA_uA, gA_uB, gB_uI, gB_uL, gB_uA, gB_uB, Nat.reduceEqDiff, ↓reduceIte, b1, b2, hz, b0]
        exact ⟨⟨hC, hA, hS, hG, hNo, hT, hK, e5, e6, e10⟩, adv hp, ⟨q1.trans q2.symm, Or.inl q2⟩, rfl, rfl, rfl, rfl, rfl, rfl⟩
      · simp (decide := true) only [xst, fX_ValueMachine_perform, fX_ValueMachine_goIf, fX_Code_hasPlace, fR_ValueMachineModel_step, fR_ValueMachineModel_goes, fR_ValueMachineModel_isPlace, fR_ValueMachineModel_needs, StepOK, gb_id, gb_eta, gb_gb, hc, ha, q6, q3, c1, a1, s1, n1, Wp_some, gb_ok, z_0, z_1, z_00, z_01, z_10, z_11, vn_0, vn_1, not_true_eq_false, not_false_eq_true, false_or, or_self, pk_sort, pk_num, x_of, x_integer, x_truth0, x_truth1, gI_uI, gI_uL, gI_uA, gI_uB, gL_uI, gL_uL, gL_uA, gL_uB, gA_uI, gA_uL, gA_uA, gA_uB, gB_uI, gB_uL, gB_uA, gB_uB, Nat.reduceEqDiff, ↓reduceIte, b1, b2, ht, b0]
        exact ⟨⟨hC, hA, hS, hG, hNo, hT, hK, e5, e6, e10⟩, ⟨rfl, by rw [ti_lt, show (0 : Int32).toInt = 0 from rfl] at b1; exact Int.not_lt.mp b1, by rw [ti_lt] at b2; exact Int.not_lt.mp b2⟩, ⟨q1.trans q2.symm, Or.inl q2⟩, rfl, rfl, rfl, rfl, rfl, rfl⟩

set_option maxHeartbeats 4000000 in
theorem step_25 {N : Nat} {x m : SG} {a : Int32} (hp : Pre N x m) (hc : gA m 0 (gI m 6).toNatClampNeg = 25) (ha : gA m 1 (gI m 6).toNatClampNeg = a) : StepOK N x m 25 a := by
  obtain ⟨hN, h, q1, q2, q3, q4, q5, q6, q7⟩ := id hp
  obtain ⟨hC, hA, hS, hG, hNo, hT, hK, e5, e6, e10⟩ := id h
  obtain ⟨c1, c2, c3, c4⟩ := id hC
  obtain ⟨a1, a2⟩ := id hA
  obtain ⟨s1, s2, s3, s4⟩ := id hS
  obtain ⟨n1, n2, n3, n4⟩ := id hNo
  have ht := VOk_true a2
  by_cases b0 : gI m 2 = 2
  · have hz := ht.mpr b0
    rw [b0] at hz
    simp (decide := true) only [xst, fX_ValueMachine_perform, fX_ValueMachine_accept, fR_ValueMachineModel_step, fR_ValueMachineModel_truth, fR_ValueMachineModel_acc, StepOK, gb_id, gb_eta, gb_gb, hc, ha, q6, q3, c1, a1, s1, n1, Wp_some, gb_ok, z_0, z_1, z_00, z_01, z_10, z_11, vn_0, vn_1, not_true_eq_false, not_false_eq_true, false_or, or_self, pk_sort, pk_num, x_of, x_integer, x_truth0, x_truth1, gI_uI, gI_uL, gI_uA, gI_uB, gL_uI, gL_uL, gL_uA, gL_uB, gA_uI, gA_uL, gA_uA, gA_uB, gB_uI, gB_uL, gB_uA, gB_uB, Nat.reduceEqDiff, ↓reduceIte, hz, b0]
    exact acc_ok hp VOk_1 rfl
  · simp (decide := true) only [xst, fX_ValueMachine_perform, fX_ValueMachine_accept, fR_ValueMachineModel_step, fR_ValueMachineModel_truth, fR_ValueMachineModel_acc, StepOK, gb_id, gb_eta, gb_gb, hc, ha, q6, q3, c1, a1, s1, n1, Wp_some, gb_ok, z_0, z_1, z_00, z_01, z_10, z_11, vn_0, vn_1, not_true_eq_false, not_false_eq_true, false_or, or_self, pk_sort, pk_num, x_of, x_integer, x_truth0, x_truth1, gI_uI, gI_uL, gI_uA, gI_uB, gL_uI, gL_uL, gL_uA, gL_uB, gA_uI, gA_uL, gA_uA, gA_uB, gB_uI, gB_uL, gB_uA, gB_uB, Nat.reduceEqDiff, ↓reduceIte, ht, b0]
    exact acc_ok hp VOk_2 rfl

set_option maxHeartbeats 4000000 in
theorem step_26 {N : Nat} {x m : SG} {a : Int32} (hp : Pre N x m) (hc : gA m 0 (gI m 6).toNatClampNeg = 26) (ha : gA m 1 (gI m 6).toNatClampNeg = a) : StepOK N x m 26 a := by
  obtain ⟨hN, h, q1, q2, q3, q4, q5, q6, q7⟩ := id hp
  obtain ⟨hC, hA, hS, hG, hNo, hT, hK, e5, e6, e10⟩ := id h
  obtain ⟨c1, c2, c3, c4⟩ := id hC
  obtain ⟨a1, a2⟩ := id hA
  obtain ⟨s1, s2, s3, s4⟩ := id hS
  obtain ⟨n1, n2, n3, n4⟩ := id hNo
  simp (decide := true) only [xst, fX_ValueMachine_perform, fX_ValueMachine_accept, fX_Value_sortOf, fR_ValueMachineModel_step, fR_ValueMachineModel_acc, StepOK, gb_id, gb_eta, gb_gb, hc, ha, q6, q3, c1, a1, s1, n1, Wp_some, gb_ok, z_0, z_1, z_00, z_01, z_10, z_11, vn_0, vn_1, not_true_eq_false, not_false_eq_true, false_or, or_self, pk_sort, pk_num, x_of, x_integer, x_truth0, x_truth1, gI_uI, gI_uL, gI_uA, gI_uB, gL_uI, gL_uL, gL_uA, gL_uB, gA_uI, gA_uL, gA_uA, gA_uB, gB_uI, gB_uL, gB_uA, gB_uB, Nat.reduceEqDiff, ↓reduceIte]
  exact acc_ok hp (VOk_3 _) rfl

set_option maxHeartbeats 4000000 in
theorem step_29 {N : Nat} {x m : SG} {a : Int32} (hp : Pre N x m) (hc : gA m 0 (gI m 6).toNatClampNeg = 29) (ha : gA m 1 (gI m 6).toNatClampNeg = a) : StepOK N x m 29 a := by
  obtain ⟨hN, h, q1, q2, q3, q4, q5, q6, q7⟩ := id hp
  obtain ⟨hC, hA, hS, hG, hNo, hT, hK, e5, e6, e10⟩ := id h
  obtain ⟨c1, c2, c3, c4⟩ := id hC
  obtain ⟨a1, a2⟩ := id hA
  obtain ⟨s1, s2, s3, s4⟩ := id hS
  obtain ⟨n1, n2, n3, n4⟩ := id hNo
  by_cases b1 : a < 0
  · simp (decide := true) only [xst, fX_ValueMachine_perform, fX_ValueMachine_makeFunction, fX_Code_hasPlace, fX_ValueMachine_accept, fR_ValueMachineModel_step, fR_ValueMachineModel_needs, fR_ValueMachineModel_acc, StepOK, gb_id, gb_eta, gb_gb, hc, ha, q6, q3, c1, a1, s1, n1, Wp_some, gb_ok, z_0, z_1, z_00, z_01, z_10, z_11, vn_0, vn_1, not_true_eq_false, not_false_eq_true, false_or, or_self, pk_sort, pk_num, x_of, x_integer, x_truth0, x_truth1, gI_uI, gI_uL, gI_uA, gI_uB, gL_uI, gL_uL, gL_uA, gL_uB, gA_uI, gA_uL, gA_uA, gA_uB, gB_uI, gB_uL, gB_uA, gB_uB, Nat.reduceEqDiff, ↓reduceIte, b1]
    exact fault_ok2 hp h ⟨q1, q2, rfl, rfl, rfl, rfl, rfl, rfl, rfl⟩ rfl (VOk_3 _)
  · have b1' : ¬ a.toInt < 0 := by rw [ti_lt, show (0 : Int32).toInt = 0 from rfl] at b1; exact b1
    have b3 : ¬ a / 8 < 0 := by rw [ti_lt, show (0 : Int32).toInt = 0 from rfl, div8 (by omega)]; omega
    by_cases b2 : gI m 1 < a / 8
    · simp (decide := true) only [xst, fX_ValueMachine_perform, fX_ValueMachine_makeFunction, fX_Code_hasPlace, fX_ValueMachine_accept, fR_ValueMachineModel_step, fR_ValueMachineModel_needs, fR_ValueMachineModel_acc, StepOK, gb_id, gb_eta, gb_gb, hc, ha, q6, q3, c1, a1, s1, n1, Wp_some, gb_ok, z_0, z_1, z_00, z_01, z_10, z_11, vn_0, vn_1, not_true_eq_false, not_false_eq_true, false_or, or_self, pk_sort, pk_num, x_of, x_integer, x_truth0, x_truth1, gI_uI, gI_uL, gI_uA, gI_uB, gL_uI, gL_uL, gL_uA, gL_uB, gA_uI, gA_uL, gA_uA, gA_uB, gB_uI, gB_uL, gB_uA, gB_uB, Nat.reduceEqDiff, ↓reduceIte, b1, b2, b3]
      exact fault_ok2 hp h ⟨q1, q2, rfl, rfl, rfl, rfl, rfl, rfl, rfl⟩ rfl (VOk_3 _)
    · simp (decide := true) only [xst, fX_ValueMachine_perform, fX_ValueMachine_makeFunction, fX_Code_hasPlace, fX_ValueMachine_accept, fR_ValueMachineModel_step, fR_ValueMachineModel_needs, fR_ValueMachineModel_acc, StepOK, gb_id, gb_eta, gb_gb, hc, ha, q6, q3, c1, a1, s1, n1, Wp_some, gb_ok, z_0, z_1, z_00, z_01, z_10, z_11, vn_0, vn_1, not_true_eq_false, not_false_eq_true, false_or, or_self, pk_sort, pk_num, x_of, x_integer, x_truth0, x_truth1, gI_uI, gI_uL, gI_uA, gI_uB, gL_uI, gL_uL, gL_uA, gL_uB, gA_uI, gA_uL, gA_uA, gA_uB, gB_uI, gB_uL, gB_uA, gB_uB, Nat.reduceEqDiff, ↓reduceIte, b1, b2, b3]
      refine acc_ok (s := 6) (n := a) hp (Or.inr (Or.inr (Or.inr ⟨rfl, ?_, ?_⟩))) rfl
      · rw [ti_lt, show (0 : Int32).toInt = 0 from rfl] at b1; omega
      · rw [ti_lt, show (0 : Int32).toInt = 0 from rfl] at b1
        rw [ti_lt, div8 (by omega)] at b2
        omega
