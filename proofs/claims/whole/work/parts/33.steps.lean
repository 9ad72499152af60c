set_option maxHeartbeats 4000000 in
theorem step_0 {N : Nat} {x m : SG} {a : Int32} (hp : Pre N x m) (hc : gA m 0 (gI m 6).toNatClampNeg = 0) (ha : gA m 1 (gI m 6).toNatClampNeg = a) : StepOK N x m 0 a := by
  obtain ⟨hN, h, q1, q2, q3, q4, q5, q6, q7⟩ := id hp
  obtain ⟨hC, hA, hS, hG, hNo, hT, hK, e5, e6, e10⟩ := id h
  obtain ⟨c1, c2, c3, c4⟩ := id hC
  obtain ⟨a1, a2⟩ := id hA
  obtain ⟨s1, s2, s3, s4⟩ := id hS
  obtain ⟨n1, n2, n3, n4⟩ := id hNo
  simp (decide := true) only [xst, fX_ValueMachine_perform, fX_ValueMachine_accept, fR_ValueMachineModel_step, fR_ValueMachineModel_acc, StepOK, gb_id, gb_eta, gb_gb, hc, ha, q6, q3, c1, a1, s1, n1, Wp_some, gb_ok, z_0, z_1, z_00, z_01, z_10, z_11, vn_0, vn_1, not_true_eq_false, not_false_eq_true, false_or, or_self, pk_sort, pk_num, x_of, x_integer, x_truth0, x_truth1, gI_uI, gI_uL, gI_uA, gI_uB, gL_uI, gL_uL, gL_uA, gL_uB, gA_uI, gA_uL, gA_uA, gA_uB, gB_uI, gB_uL, gB_uA, gB_uB, Nat.reduceEqDiff, ↓reduceIte]
  exact acc_ok hp VOk_0 rfl

set_option maxHeartbeats 4000000 in
theorem step_1 {N : Nat} {x m : SG} {a : Int32} (hp : Pre N x m) (hc : gA m 0 (gI m 6).toNatClampNeg = 1) (ha : gA m 1 (gI m 6).toNatClampNeg = a) : StepOK N x m 1 a := by
  obtain ⟨hN, h, q1, q2, q3, q4, q5, q6, q7⟩ := id hp
  obtain ⟨hC, hA, hS, hG, hNo, hT, hK, e5, e6, e10⟩ := id h
  obtain ⟨c1, c2, c3, c4⟩ := id hC
  obtain ⟨a1, a2⟩ := id hA
  obtain ⟨s1, s2, s3, s4⟩ := id hS
  obtain ⟨n1, n2, n3, n4⟩ := id hNo
  simp (decide := true) only [xst, fX_ValueMachine_perform, fX_ValueMachine_accept, fR_ValueMachineModel_step, fR_ValueMachineModel_acc, StepOK, gb_id, gb_eta, gb_gb, hc, ha, q6, q3, c1, a1, s1, n1, Wp_some, gb_ok, z_0, z_1, z_00, z_01, z_10, z_11, vn_0, vn_1, not_true_eq_false, not_false_eq_true, false_or, or_self, pk_sort, pk_num, x_of, x_integer, x_truth0, x_truth1, gI_uI, gI_uL, gI_uA, gI_uB, gL_uI, gL_uL, gL_uA, gL_uB, gA_uI, gA_uL, gA_uA, gA_uB, gB_uI, gB_uL, gB_uA, gB_uB, Nat.reduceEqDiff, ↓reduceIte]
  exact acc_ok hp VOk_1 rfl

set_option maxHeartbeats 4000000 in
theorem step_2 {N : Nat} {x m : SG} {a : Int32} (hp : Pre N x m) (hc : gA m 0 (gI m 6).toNatClampNeg = 2) (ha : gA m 1 (gI m 6).toNatClampNeg = a) : StepOK N x m 2 a := by
  obtain ⟨hN, h, q1, q2, q3, q4, q5, q6, q7⟩ := id hp
  obtain ⟨hC, hA, hS, hG, hNo, hT, hK, e5, e6, e10⟩ := id h
  obtain ⟨c1, c2, c3, c4⟩ := id hC
  obtain ⟨a1, a2⟩ := id hA
  obtain ⟨s1, s2, s3, s4⟩ := id hS
  obtain ⟨n1, n2, n3, n4⟩ := id hNo
  simp (decide := true) only [xst, fX_ValueMachine_perform, fX_ValueMachine_accept, fR_ValueMachineModel_step, fR_ValueMachineModel_acc, StepOK, gb_id, gb_eta, gb_gb, hc, ha, q6, q3, c1, a1, s1, n1, Wp_some, gb_ok, z_0, z_1, z_00, z_01, z_10, z_11, vn_0, vn_1, not_true_eq_false, not_false_eq_true, false_or, or_self, pk_sort, pk_num, x_of, x_integer, x_truth0, x_truth1, gI_uI, gI_uL, gI_uA, gI_uB, gL_uI, gL_uL, gL_uA, gL_uB, gA_uI, gA_uL, gA_uA, gA_uB, gB_uI, gB_uL, gB_uA, gB_uB, Nat.reduceEqDiff, ↓reduceIte]
  exact acc_ok hp VOk_2 rfl

set_option maxHeartbeats 4000000 in
theorem step_3 {N : Nat} {x m : SG} {a : Int32} (hp : Pre N x m) (hc : gA m 0 (gI m 6).toNatClampNeg = 3) (ha : gA m 1 (gI m 6).toNatClampNeg = a) : StepOK N x m 3 a := by
  obtain ⟨hN, h, q1, q2, q3, q4, q5, q6, q7⟩ := id hp
  obtain ⟨hC, hA, hS, hG, hNo, hT, hK, e5, e6, e10⟩ := id h
  obtain ⟨c1, c2, c3, c4⟩ := id hC
  obtain ⟨a1, a2⟩ := id hA
  obtain ⟨s1, s2, s3, s4⟩ := id hS
  obtain ⟨n1, n2, n3, n4⟩ := id hNo
  simp (decide := true) only [xst, fX_ValueMachine_perform, fX_ValueMachine_accept, fR_ValueMachineModel_step, fR_ValueMachineModel_acc, StepOK, gb_id, gb_eta, gb_gb, hc, ha, q6, q3, c1, a1, s1, n1, Wp_some, gb_ok, z_0, z_1, z_00, z_01, z_10, z_11, vn_0, vn_1, not_true_eq_false, not_false_eq_true, false_or, or_self, pk_sort, pk_num, x_of, x_integer, x_truth0, x_truth1, gI_uI, gI_uL, gI_uA, gI_uB, gL_uI, gL_uL, gL_uA, gL_uB, gA_uI, gA_uL, gA_uA, gA_uB, gB_uI, gB_uL, gB_uA, gB_uB, Nat.reduceEqDiff, ↓reduceIte]
  exact acc_ok hp (VOk_3 _) rfl

set_option maxHeartbeats 4000000 in
theorem step_4 {N : Nat} {x m : SG} {a : Int32} (hp : Pre N x m) (hc : gA m 0 (gI m 6).toNatClampNeg = 4) (ha : gA m 1 (gI m 6).toNatClampNeg = a) : StepOK N x m 4 a := by
  obtain ⟨hN, h, q1, q2, q3, q4, q5, q6, q7⟩ := id hp
  obtain ⟨hC, hA, hS, hG, hNo, hT, hK, e5, e6, e10⟩ := id h
  obtain ⟨c1, c2, c3, c4⟩ := id hC
  obtain ⟨a1, a2⟩ := id hA
  obtain ⟨s1, s2, s3, s4⟩ := id hS
  obtain ⟨n1, n2, n3, n4⟩ := id hNo
  by_cases b1 : a < 0
  · simp (decide := true) only [xst, fX_ValueMachine_perform, fX_ValueMachine_takeStack, fX_ValueStack_reaches, fX_ValueStack_at, fX_ValueMachine_accept, fR_ValueMachineModel_step, fR_ValueMachineModel_loads, fR_ValueMachineModel_needs, fR_ValueMachineModel_acc, fR_ValueMachineModel_deep, StepOK, gb_id, gb_eta, gb_gb, hc, ha, q6, q3, c1, a1, s1, n1, Wp_some, gb_ok, z_0, z_1, z_00, z_01, z_10, z_11, vn_0, vn_1, not_true_eq_false, not_false_eq_true, false_or, or_self, pk_sort, pk_num, x_of, x_integer, x_truth0, x_truth1, gI_uI, gI_uL, gI_uA, gI_uB, gL_uI, gL_uL, gL_uA, gL_uB, gA_uI, gA_uL, gA_uA, gA_uB, gB_uI, gB_uL, gB_uA, gB_uB, Nat.reduceEqDiff, ↓reduceIte, b1]
    exact fault_ok2 hp h ⟨q1, q2, rfl, rfl, rfl, rfl, rfl, rfl, rfl⟩ rfl (VOk_3 _)
  · by_cases b2 : gI m 4 ≤ a
    · simp (decide := true) only [xst, fX_ValueMachine_perform, fX_ValueMachine_takeStack, fX_ValueStack_reaches, fX_ValueStack_at, fX_ValueMachine_accept, fR_ValueMachineModel_step, fR_ValueMachineModel_loads, fR_ValueMachineModel_needs, fR_ValueMachineModel_acc, fR_ValueMachineModel_deep, StepOK, gb_id, gb_eta, gb_gb, hc, ha, q6, q3, c1, a1, s1, n1, Wp_some, gb_ok, z_0, z_1, z_00, z_01, z_10, z_11, vn_0, vn_1, not_true_eq_false, not_false_eq_true, false_or, or_self, pk_sort, pk_num, x_of, x_integer, x_truth0, x_truth1, gI_uI, gI_uL, gI_uA, gI_uB, gL_uI, gL_uL, gL_uA, gL_uB, gA_uI, gA_uL, gA_uA, gA_uB, gB_uI, gB_uL, gB_uA, gB_uB, Nat.reduceEqDiff, ↓reduceIte, b1, b2]
      exact fault_ok2 hp h ⟨q1, q2, rfl, rfl, rfl, rfl, rfl, rfl, rfl⟩ rfl (VOk_3 _)
    · obtain ⟨i1, i2, i3, i4⟩ := deep_ok hS b1 b2
      simp (decide := true) only [xst, fX_ValueMachine_perform, fX_ValueMachine_takeStack, fX_ValueStack_reaches, fX_ValueStack_at, fX_ValueMachine_accept, fR_ValueMachineModel_step, fR_ValueMachineModel_loads, fR_ValueMachineModel_needs, fR_ValueMachineModel_acc, fR_ValueMachineModel_deep, StepOK, gb_id, gb_eta, gb_gb, hc, ha, q6, q3, c1, a1, s1, n1, Wp_some, gb_ok, z_0, z_1, z_00, z_01, z_10, z_11, vn_0, vn_1, not_true_eq_false, not_false_eq_true, false_or, or_self, pk_sort, pk_num, x_of, x_integer, x_truth0, x_truth1, gI_uI, gI_uL, gI_uA, gI_uB, gL_uI, gL_uL, gL_uA, gL_uB, gA_uI, gA_uL, gA_uA, gA_uB, gB_uI, gB_uL, gB_uA, gB_uB, Nat.reduceEqDiff, ↓reduceIte, b1, b2, i1, i2]
      exact acc_ok hp i3 rfl

set_option maxHeartbeats 4000000 in
theorem step_5 {N : Nat} {x m : SG} {a : Int32} (hp : Pre N x m) (hc : gA m 0 (gI m 6).toNatClampNeg = 5) (ha : gA m 1 (gI m 6).toNatClampNeg = a) : StepOK N x m 5 a := by
  obtain ⟨hN, h, q1, q2, q3, q4, q5, q6, q7⟩ := id hp
  obtain ⟨hC, hA, hS, hG, hNo, hT, hK, e5, e6, e10⟩ := id h
  obtain ⟨c1, c2, c3, c4⟩ := id hC
  obtain ⟨a1, a2⟩ := id hA
  obtain ⟨s1, s2, s3, s4⟩ := id hS
  obtain ⟨n1, n2, n3, n4⟩ := id hNo
  by_cases b1 : a < 0
  · simp (decide := true) only [xst, fX_ValueMachine_perform, fX_ValueMachine_takeGlobal, fX_ValueMachine_isGlobal, fX_ValueMachine_accept, fR_ValueMachineModel_step, fR_ValueMachineModel_loads, fR_ValueMachineModel_needs, fR_ValueMachineModel_acc, StepOK, gb_id, gb_eta, gb_gb, hc, ha, q6, q3, c1, a1, s1, n1, Wp_some, gb_ok, z_0, z_1, z_00, z_01, z_10, z_11, vn_0, vn_1, not_true_eq_false, not_false_eq_true, false_or, or_self, pk_sort, pk_num, x_of, x_integer, x_truth0, x_truth1, gI_uI, gI_uL, gI_uA, gI_uB, gL_uI, gL_uL, gL_uA, gL_uB, gA_uI, gA_uL, gA_uA, gA_uB, gB_uI, gB_uL, gB_uA, gB_uB, Nat.reduceEqDiff, ↓reduceIte, b1]
    exact fault_ok2 hp h ⟨q1, q2, rfl, rfl, rfl, rfl, rfl, rfl, rfl⟩ rfl (VOk_3 _)
  · by_cases b2 : 8 ≤ a
    · simp (decide := true) only [xst, fX_ValueMachine_perform, fX_ValueMachine_takeGlobal, fX_ValueMachine_isGlobal, fX_ValueMachine_accept, fR_ValueMachineModel_step, fR_ValueMachineModel_loads, fR_ValueMachineModel_needs, fR_ValueMachineModel_acc, StepOK, gb_id, gb_eta, gb_gb, hc, ha, q6, q3, c1, a1, s1, n1, Wp_some, gb_ok, z_0, z_1, z_00, z_01, z_10, z_11, vn_0, vn_1, not_true_eq_false, not_false_eq_true, false_or, or_self, pk_sort, pk_num, x_of, x_integer, x_truth0, x_truth1, gI_uI, gI_uL, gI_uA, gI_uB, gL_uI, gL_uL, gL_uA, gL_uB, gA_uI, gA_uL, gA_uA, gA_uB, gB_uI, gB_uL, gB_uA, gB_uB, Nat.reduceEqDiff, ↓reduceIte, b1, b2]
      exact fault_ok2 hp h ⟨q1, q2, rfl, rfl, rfl, rfl, rfl, rfl, rfl⟩ rfl (VOk_3 _)
    · obtain ⟨i1, i2, i3⟩ := glob_ok hG b1 b2
      simp (decide := true) only [xst, fX_ValueMachine_perform, fX_ValueMachine_takeGlobal, fX_ValueMachine_isGlobal, fX_ValueMachine_accept, fR_ValueMachineModel_step, fR_ValueMachineModel_loads, fR_ValueMachineModel_needs, fR_ValueMachineModel_acc, StepOK, gb_id, gb_eta, gb_gb, hc, ha, q6, q3, c1, a1, s1, n1, Wp_some, gb_ok, z_0, z_1, z_00, z_01, z_10, z_11, vn_0, vn_1, not_true_eq_false, not_false_eq_true, false_or, or_self, pk_sort, pk_num, x_of, x_integer, x_truth0, x_truth1, gI_uI, gI_uL, gI_uA, gI_uB, gL_uI, gL_uL, gL_uA, gL_uB, gA_uI, gA_uL, gA_uA, gA_uB, gB_uI, gB_uL, gB_uA, gB_uB, Nat.reduceEqDiff, ↓reduceIte, b1, b2, i1, i2]
      exact acc_ok hp i3 rfl
