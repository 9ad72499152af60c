/-! the calls that only ask -/
def Both (o o' : Option (Int32 × SG)) : Prop := Wp o fun r x' => Wp o' fun r' m' => r = r' ∧ Rel x' m'
theorem Both_ex {o o' : Option (Int32 × SG)} (h : Both o o') : ∃ (r : Int32) (x' m' : SG), o = some (r, x') ∧ o' = some (r, m') ∧ Rel x' m' := by
  obtain ⟨r, x', h1, h2⟩ := Wp_ex h
  obtain ⟨r', m', h3, h4, h5⟩ := Wp_ex h2
  subst h4
  exact ⟨r, x', m', h1, h3, h5⟩
theorem Rel_0 {x m : SG} (h : Rel x m) (v : Int32) : Rel x (uI m 0 v) := h
theorem Rel_look {x m : SG} (h : Rel x m) {s n : Int32} (hv : VOk (gI m 1) (gA m 8) s n) : Rel (uL x 1 (pk s n)) (uI (uI (uI m 0 0) 10 s) 11 n) := by
  obtain ⟨hB, _, hS, hNx, hd⟩ := h
  exact ⟨hB, ⟨rfl, hv⟩, hS, hNx, hd⟩
theorem state_ok {N : Nat} {x m : SG} (h : Rel x m) : Both (fX_ValueMachine_state N x) (fR_ValueMachineModel_state N m) := by
  obtain ⟨hB, hL, ⟨o1, o2⟩, ⟨p1, p2, p3⟩, hd⟩ := id h
  have hsz : gI x 0 = gI m 1 := hB.1.1
  unfold Both fX_ValueMachine_state fR_ValueMachineModel_state
  rw [o1, hsz, p1]
  by_cases b : gI m 7 = 0
  · rw [if_pos b, if_pos b]
    by_cases b2 : gI m 6 = gI m 1
    · rw [if_pos b2, if_pos (by rw [b2, ti_le]; omega)]
      exact ⟨rfl, h⟩
    · rw [if_neg b2, if_neg (fun z => b2 (by rw [ti_le] at z; rw [ti_eq]; omega))]
      exact ⟨rfl, h⟩
  · rw [if_neg b, if_neg b]
    exact ⟨rfl, h⟩
theorem isSame_ok {N : Nat} {x m : SG} (h : Rel x m) : Both (fX_ValueMachine_isSame N x) (fR_ValueMachineModel_isSame N m) := by
  obtain ⟨hB, ⟨l1, l2⟩, hS, hNx, hd⟩ := id h
  obtain ⟨a1, a2⟩ := hB.2.1
  have hs := VOk_same l2 a2
  unfold Both fX_ValueMachine_isSame fR_ValueMachineModel_isSame fR_ValueMachineModel_same
  rw [l1, a1]
  by_cases b1 : gI m 10 = gI m 2
  · by_cases b2 : gI m 10 < 3
    · rw [if_pos (hs.mpr ⟨b1, Or.inl b2⟩), if_pos b1, if_pos b2, gb_ok, z_1, if_neg (fun z => z rfl)]
      exact ⟨rfl, h⟩
    · by_cases b3 : gI m 11 = gI m 3
      · rw [if_pos (hs.mpr ⟨b1, Or.inr b3⟩), if_pos b1, if_neg b2, if_pos b3, gb_ok, z_1, if_neg (fun z => z rfl)]
        exact ⟨rfl, h⟩
      · rw [if_neg (fun z => b3 (pk_inj z).2), if_pos b1, if_neg b2, if_neg b3, gb_ok, z_0, if_neg (fun z => z rfl)]
        exact ⟨rfl, h⟩
  · rw [if_neg (fun z => b1 (pk_inj z).1), if_neg b1, gb_ok, z_0, if_neg (fun z => z rfl)]
    exact ⟨rfl, h⟩
theorem count_ok {N : Nat} (hN : 31 ≤ N) {x m : SG} (h : Rel x m) (a : Int32) : Both (fX_ValueMachine_count N x a) (fR_ValueMachineModel_count N m a) := by
  obtain ⟨hB, hL, hS, ⟨p1, p2, p3⟩, hd⟩ := id h
  obtain ⟨⟨c1, _⟩, _, ⟨s1, _⟩, _, ⟨n1, _⟩, ⟨t1, _⟩, _, e5, e6, e10⟩ := hB
  unfold Both fX_ValueMachine_count fR_ValueMachineModel_count
  by_cases b0 : a = 0
  · rw [if_pos b0, if_pos b0]
    exact ⟨c1, h⟩
  by_cases b1 : a = 1
  · rw [if_neg b0, if_pos b1, if_neg b0, if_pos b1]
    exact ⟨p1, h⟩
  by_cases b2 : a = 2
  · rw [if_neg b0, if_neg b1, if_pos b2, if_neg b0, if_neg b1, if_pos b2]
    exact ⟨s1, h⟩
  by_cases b3 : a = 3
  · rw [if_neg b0, if_neg b1, if_neg b2, if_pos b3, if_neg b0, if_neg b1, if_neg b2, if_pos b3]
    exact ⟨n1, h⟩
  by_cases b4 : a = 4
  · rw [if_neg b0, if_neg b1, if_neg b2, if_neg b3, if_pos b4, if_neg b0, if_neg b1, if_neg b2, if_neg b3, if_pos b4, many_eq hN, gb_ok]
    exact ⟨t1, h⟩
  by_cases b5 : a = 5
  · rw [if_neg b0, if_neg b1, if_neg b2, if_neg b3, if_neg b4, if_pos b5, if_neg b0, if_neg b1, if_neg b2, if_neg b3, if_neg b4, if_pos b5]
    exact ⟨e5, h⟩
  by_cases b6 : a = 6
  · rw [if_neg b0, if_neg b1, if_neg b2, if_neg b3, if_neg b4, if_neg b5, if_pos b6, if_neg b0, if_neg b1, if_neg b2, if_neg b3, if_neg b4, if_neg b5, if_pos b6]
    exact ⟨e6, h⟩
  by_cases b7 : a = 7
  · rw [if_neg b0, if_neg b1, if_neg b2, if_neg b3, if_neg b4, if_neg b5, if_neg b6, if_pos b7, if_neg b0, if_neg b1, if_neg b2, if_neg b3, if_neg b4, if_neg b5, if_neg b6, if_pos b7]
    exact ⟨hd, h⟩
  by_cases b8 : a = 8
  · rw [if_neg b0, if_neg b1, if_neg b2, if_neg b3, if_neg b4, if_neg b5, if_neg b6, if_neg b7, if_pos b8, if_neg b0, if_neg b1, if_neg b2, if_neg b3, if_neg b4, if_neg b5, if_neg b6, if_neg b7, if_pos b8]
    exact ⟨e10, h⟩
  rw [if_neg b0, if_neg b1, if_neg b2, if_neg b3, if_neg b4, if_neg b5, if_neg b6, if_neg b7, if_neg b8, if_neg b0, if_neg b1, if_neg b2, if_neg b3, if_neg b4, if_neg b5, if_neg b6, if_neg b7, if_neg b8]
  exact ⟨rfl, h⟩
theorem value_ok {N : Nat} {x m : SG} (h : Rel x m) : Both (fX_ValueMachine_value N x) (fR_ValueMachineModel_value N m) := by
  obtain ⟨hB, ⟨l1, l2⟩, hS, hNx, hd⟩ := id h
  have hT := hB.2.2.2.2.2.1
  by_cases b3 : gI m 10 = 3
  · simp (decide := true) only [Both, fX_ValueMachine_value, fX_Value_sortOf, fX_Value_numberOf, fR_ValueMachineModel_value, l1, b3, gb_eta, Wp_some, gb_ok, z_0, z_1, z_00, z_01, z_10, z_11, vn_0, vn_1, not_true_eq_false, not_false_eq_true, false_or, or_self, pk_sort, pk_num, x_of, x_integer, x_truth0, x_truth1, gI_uI, gI_uL, gI_uA, gI_uB, gL_uI, gL_uL, gL_uA, gL_uB, gA_uI, gA_uL, gA_uA, gA_uB, gB_uI, gB_uL, gB_uA, gB_uB, Nat.reduceEqDiff, ↓reduceIte]
    exact ⟨by trivial, h⟩
  · by_cases b4 : gI m 10 = 4
    · simp (decide := true) only [Both, fX_ValueMachine_value, fX_Value_sortOf, fX_Value_numberOf, fR_ValueMachineModel_value, l1, b4, gb_eta, Wp_some, gb_ok, z_0, z_1, z_00, z_01, z_10, z_11, vn_0, vn_1, not_true_eq_false, not_false_eq_true, false_or, or_self, pk_sort, pk_num, x_of, x_integer, x_truth0, x_truth1, gI_uI, gI_uL, gI_uA, gI_uB, gL_uI, gL_uL, gL_uA, gL_uB, gA_uI, gA_uL, gA_uA, gA_uB, gB_uI, gB_uL, gB_uA, gB_uB, Nat.reduceEqDiff, ↓reduceIte]
      exact ⟨by trivial, h⟩
    · by_cases b5 : gI m 10 = 5
      · obtain ⟨t1, t2, t3, t4, t5, t6, t7, t8, t9⟩ := thing_ok hT l2 (Or.inr b5)
        simp (decide := true) only [Both, fX_ValueMachine_value, fX_Value_sortOf, fX_Value_numberOf, fX_Store_sizeOf, fR_ValueMachineModel_value, l1, b5, t1, t2, t4, gb_eta, Wp_some, gb_ok, z_0, z_1, z_00, z_01, z_10, z_11, vn_0, vn_1, not_true_eq_false, not_false_eq_true, false_or, or_self, pk_sort, pk_num, x_of, x_integer, x_truth0, x_truth1, gI_uI, gI_uL, gI_uA, gI_uB, gL_uI, gL_uL, gL_uA, gL_uB, gA_uI, gA_uL, gA_uA, gA_uB, gB_uI, gB_uL, gB_uA, gB_uB, Nat.reduceEqDiff, ↓reduceIte]
        exact ⟨by trivial, h⟩
      · by_cases b6 : gI m 10 = 6
        · simp (decide := true) only [Both, fX_ValueMachine_value, fX_Value_sortOf, fX_Value_numberOf, fR_ValueMachineModel_value, l1, b6, gb_eta, Wp_some, gb_ok, z_0, z_1, z_00, z_01, z_10, z_11, vn_0, vn_1, not_true_eq_false, not_false_eq_true, false_or, or_self, pk_sort, pk_num, x_of, x_integer, x_truth0, x_truth1, gI_uI, gI_uL, gI_uA, gI_uB, gL_uI, gL_uL, gL_uA, gL_uB, gA_uI, gA_uL, gA_uA, gA_uB, gB_uI, gB_uL, gB_uA, gB_uB, Nat.reduceEqDiff, ↓reduceIte]
          exact ⟨by trivial, h⟩
        · simp (decide := true) only [Both, fX_ValueMachine_value, fX_Value_sortOf, fX_Value_numberOf, fR_ValueMachineModel_value, l1, b3, b4, b5, b6, gb_eta, Wp_some, gb_ok, z_0, z_1, z_00, z_01, z_10, z_11, vn_0, vn_1, not_true_eq_false, not_false_eq_true, false_or, or_self, pk_sort, pk_num, x_of, x_integer, x_truth0, x_truth1, gI_uI, gI_uL, gI_uA, gI_uB, gL_uI, gL_uL, gL_uA, gL_uB, gA_uI, gA_uL, gA_uA, gA_uB, gB_uI, gB_uL, gB_uA, gB_uB, Nat.reduceEqDiff, ↓reduceIte]
          exact ⟨by trivial, h⟩
theorem into_ok {N : Nat} {x m : SG} (h : Rel x m) (a : Int32) : Both (fX_ValueMachine_into N x a) (fR_ValueMachineModel_into N m a) := by
  obtain ⟨hB, ⟨l1, l2⟩, hS, hNx, hd⟩ := id h
  have hT := hB.2.2.2.2.2.1
  have hK := hB.2.2.2.2.2.2.1
  by_cases b45 : gI m 10 = 4 ∨ gI m 10 = 5
  · obtain ⟨t1, t2, t3, t4, t5, t6, t7, t8, t9⟩ := thing_ok hT l2 b45
    have hne : (gI m 10 = 4 → False) → gI m 10 = 5 := fun z => b45.elim (fun w => (z w).elim) id
    by_cases b1 : a < 0
    · by_cases b4 : gI m 10 = 4
      · simp (decide := true) only [Both, fX_ValueMachine_into, isThing_eq, fX_Store_hasPart, fR_ValueMachineModel_into, l1, b4, b1, gb_eta, true_or, Wp_some, gb_ok, z_0, z_1, z_00, z_01, z_10, z_11, vn_0, vn_1, not_true_eq_false, not_false_eq_true, false_or, or_self, pk_sort, pk_num, x_of, x_integer, x_truth0, x_truth1, gI_uI, gI_uL, gI_uA, gI_uB, gL_uI, gL_uL, gL_uA, gL_uB, gA_uI, gA_uL, gA_uA, gA_uB, gB_uI, gB_uL, gB_uA, gB_uB, Nat.reduceEqDiff, ↓reduceIte]
        exact ⟨by trivial, h⟩
      · have b5 := hne b4
        simp (decide := true) only [Both, fX_ValueMachine_into, isThing_eq, fX_Store_hasPart, fR_ValueMachineModel_into, l1, b5, b1, gb_eta, or_true, Wp_some, gb_ok, z_0, z_1, z_00, z_01, z_10, z_11, vn_0, vn_1, not_true_eq_false, not_false_eq_true, false_or, or_self, pk_sort, pk_num, x_of, x_integer, x_truth0, x_truth1, gI_uI, gI_uL, gI_uA, gI_uB, gL_uI, gL_uL, gL_uA, gL_uB, gA_uI, gA_uL, gA_uA, gA_uB, gB_uI, gB_uL, gB_uA, gB_uB, Nat.reduceEqDiff, ↓reduceIte]
        exact ⟨by trivial, h⟩
    · by_cases b2 : gA m 9 (gI m 11).toNatClampNeg ≤ a
      · have b2' : ¬ a < gA m 9 (gI m 11).toNatClampNeg := by rw [ti_lt]; rw [ti_le] at b2; omega
        by_cases b4 : gI m 10 = 4
        · simp (decide := true) only [Both, fX_ValueMachine_into, isThing_eq, fX_Store_hasPart, fX_Store_sizeOf, fX_Value_numberOf, fR_ValueMachineModel_into, l1, b4, b1, b2, b2', t1, t2, t4, gb_eta, true_or, Wp_some, gb_ok, z_0, z_1, z_00, z_01, z_10, z_11, vn_0, vn_1, not_true_eq_false, not_false_eq_true, false_or, or_self, pk_sort, pk_num, x_of, x_integer, x_truth0, x_truth1, gI_uI, gI_uL, gI_uA, gI_uB, gL_uI, gL_uL, gL_uA, gL_uB, gA_uI, gA_uL, gA_uA, gA_uB, gB_uI, gB_uL, gB_uA, gB_uB, Nat.reduceEqDiff, ↓reduceIte]
          exact ⟨by trivial, h⟩
        · have b5 := hne b4
          simp (decide := true) only [Both, fX_ValueMachine_into, isThing_eq, fX_Store_hasPart, fX_Store_sizeOf, fX_Value_numberOf, fR_ValueMachineModel_into, l1, b5, b1, b2, b2', t1, t2, t4, gb_eta, or_true, Wp_some, gb_ok, z_0, z_1, z_00, z_01, z_10, z_11, vn_0, vn_1, not_true_eq_false, not_false_eq_true, false_or, or_self, pk_sort, pk_num, x_of, x_integer, x_truth0, x_truth1, gI_uI, gI_uL, gI_uA, gI_uB, gL_uI, gL_uL, gL_uA, gL_uB, gA_uI, gA_uL, gA_uA, gA_uB, gB_uI, gB_uL, gB_uA, gB_uB, Nat.reduceEqDiff, ↓reduceIte]
          exact ⟨by trivial, h⟩
      · have b2' : a < gA m 9 (gI m 11).toNatClampNeg := by rw [ti_lt]; rw [ti_le] at b2; omega
        obtain ⟨p1, p2, p3, p4, p5, p6, p7, p8⟩ := part_ok hK t8 t9 t3 t6 b1 b2
        by_cases b4 : gI m 10 = 4
        · simp (decide := true) only [Both, fX_ValueMachine_into, fX_ValueMachine_choose, fX_Value_sortOf, isThing_eq, fX_Store_hasPart, fX_Store_sizeOf, fX_Store_part, fX_Value_numberOf, fR_ValueMachineModel_into, fR_ValueMachineModel_chooses, l1, b4, b1, b2, b2', t1, t2, t4, p1, p2, p3, p4, p5, p6, gb_eta, true_or, Wp_some, gb_ok, z_0, z_1, z_00, z_01, z_10, z_11, vn_0, vn_1, not_true_eq_false, not_false_eq_true, false_or, or_self, pk_sort, pk_num, x_of, x_integer, x_truth0, x_truth1, gI_uI, gI_uL, gI_uA, gI_uB, gL_uI, gL_uL, gL_uA, gL_uB, gA_uI, gA_uL, gA_uA, gA_uB, gB_uI, gB_uL, gB_uA, gB_uB, Nat.reduceEqDiff, ↓reduceIte]
          exact ⟨by trivial, Rel_look h p7⟩
        · have b5 := hne b4
          simp (decide := true) only [Both, fX_ValueMachine_into, fX_ValueMachine_choose, fX_Value_sortOf, isThing_eq, fX_Store_hasPart, fX_Store_sizeOf, fX_Store_part, fX_Value_numberOf, fR_ValueMachineModel_into, fR_ValueMachineModel_chooses, l1, b5, b1, b2, b2', t1, t2, t4, p1, p2, p3, p4, p5, p6, gb_eta, or_true, Wp_some, gb_ok, z_0, z_1, z_00, z_01, z_10, z_11, vn_0, vn_1, not_true_eq_false, not_false_eq_true, false_or, or_self, pk_sort, pk_num, x_of, x_integer, x_truth0, x_truth1, gI_uI, gI_uL, gI_uA, gI_uB, gL_uI, gL_uL, gL_uA, gL_uB, gA_uI, gA_uL, gA_uA, gA_uB, gB_uI, gB_uL, gB_uA, gB_uB, Nat.reduceEqDiff, ↓reduceIte]
          exact ⟨by trivial, Rel_look h p7⟩
  · have b4 : ¬ gI m 10 = 4 := fun z => b45 (Or.inl z)
    have b5 : ¬ gI m 10 = 5 := fun z => b45 (Or.inr z)
    simp (decide := true) only [Both, fX_ValueMachine_into, isThing_eq, fR_ValueMachineModel_into, l1, b4, b5, gb_eta, Wp_some, gb_ok, z_0, z_1, z_00, z_01, z_10, z_11, vn_0, vn_1, not_true_eq_false, not_false_eq_true, false_or, or_self, pk_sort, pk_num, x_of, x_integer, x_truth0, x_truth1, gI_uI, gI_uL, gI_uA, gI_uB, gL_uI, gL_uL, gL_uA, gL_uB, gA_uI, gA_uL, gA_uA, gA_uB, gB_uI, gB_uL, gB_uA, gB_uB, Nat.reduceEqDiff, ↓reduceIte]
    exact ⟨by trivial, h⟩
theorem look_ok {N : Nat} {x m : SG} (h : Rel x m) (w a : Int32) : Both (fX_ValueMachine_look N x w a) (fR_ValueMachineModel_look N m w a) := by
  obtain ⟨hB, ⟨l1, l2⟩, ⟨o1, o2⟩, hNx, hd⟩ := id h
  obtain ⟨hC, ⟨a1, a2⟩, hS, hG, hNo, hT, hK, e5, e6, e10⟩ := id hB
  have s1 := hS.1
  by_cases w0 : w = 0
  · subst w0
    simp (decide := true) only [Both, fX_ValueMachine_look, fX_ValueMachine_choose, fX_Value_sortOf, fR_ValueMachineModel_look, fR_ValueMachineModel_chooses, a1, gb_eta, Wp_some, gb_ok, z_0, z_1, z_00, z_01, z_10, z_11, vn_0, vn_1, not_true_eq_false, not_false_eq_true, false_or, or_self, pk_sort, pk_num, x_of, x_integer, x_truth0, x_truth1, gI_uI, gI_uL, gI_uA, gI_uB, gL_uI, gL_uL, gL_uA, gL_uB, gA_uI, gA_uL, gA_uA, gA_uB, gB_uI, gB_uL, gB_uA, gB_uB, Nat.reduceEqDiff, ↓reduceIte]
    exact ⟨by trivial, Rel_look h a2⟩
  · by_cases w1 : w = 1
    · subst w1
      by_cases b1 : a < 0
      · simp (decide := true) only [Both, fX_ValueMachine_look, fX_ValueStack_reaches, fR_ValueMachineModel_look, b1, gb_eta, Wp_some, gb_ok, z_0, z_1, z_00, z_01, z_10, z_11, vn_0, vn_1, not_true_eq_false, not_false_eq_true, false_or, or_self, pk_sort, pk_num, x_of, x_integer, x_truth0, x_truth1, gI_uI, gI_uL, gI_uA, gI_uB, gL_uI, gL_uL, gL_uA, gL_uB, gA_uI, gA_uL, gA_uA, gA_uB, gB_uI, gB_uL, gB_uA, gB_uB, Nat.reduceEqDiff, ↓reduceIte]
        exact ⟨by trivial, h⟩
      · by_cases b2 : gI m 4 ≤ a
        · have b2' : ¬ a < gI m 4 := by rw [ti_lt]; rw [ti_le] at b2; omega
          simp (decide := true) only [Both, fX_ValueMachine_look, fX_ValueStack_reaches, fR_ValueMachineModel_look, b1, b2, b2', s1, gb_eta, Wp_some, gb_ok, z_0, z_1, z_00, z_01, z_10, z_11, vn_0, vn_1, not_true_eq_false, not_false_eq_true, false_or, or_self, pk_sort, pk_num, x_of, x_integer, x_truth0, x_truth1, gI_uI, gI_uL, gI_uA, gI_uB, gL_uI, gL_uL, gL_uA, gL_uB, gA_uI, gA_uL, gA_uA, gA_uB, gB_uI, gB_uL, gB_uA, gB_uB, Nat.reduceEqDiff, ↓reduceIte]
          exact ⟨by trivial, h⟩
        · have b2' : a < gI m 4 := by rw [ti_lt]; rw [ti_le] at b2; omega
          obtain ⟨i1, i2, i3, i4⟩ := deep_ok hS b1 b2
          simp (decide := true) only [Both, fX_ValueMachine_look, fX_ValueStack_reaches, fX_ValueStack_at, fX_ValueMachine_choose, fX_Value_sortOf, fR_ValueMachineModel_look, fR_ValueMachineModel_deep, fR_ValueMachineModel_chooses, b1, b2, b2', s1, i1, i2, gb_eta, Wp_some, gb_ok, z_0, z_1, z_00, z_01, z_10, z_11, vn_0, vn_1, not_true_eq_false, not_false_eq_true, false_or, or_self, pk_sort, pk_num, x_of, x_integer, x_truth0, x_truth1, gI_uI, gI_uL, gI_uA, gI_uB, gL_uI, gL_uL, gL_uA, gL_uB, gA_uI, gA_uL, gA_uA, gA_uB, gB_uI, gB_uL, gB_uA, gB_uB, Nat.reduceEqDiff, ↓reduceIte]
          exact ⟨by trivial, Rel_look h i3⟩
    · by_cases w2 : w = 2
      · subst w2
        by_cases b1 : a < 0
        · simp (decide := true) only [Both, fX_ValueMachine_look, fX_ValueMachine_isGlobal, fR_ValueMachineModel_look, b1, gb_eta, Wp_some, gb_ok, z_0, z_1, z_00, z_01, z_10, z_11, vn_0, vn_1, not_true_eq_false, not_false_eq_true, false_or, or_self, pk_sort, pk_num, x_of, x_integer, x_truth0, x_truth1, gI_uI, gI_uL, gI_uA, gI_uB, gL_uI, gL_uL, gL_uA, gL_uB, gA_uI, gA_uL, gA_uA, gA_uB, gB_uI, gB_uL, gB_uA, gB_uB, Nat.reduceEqDiff, ↓reduceIte]
          exact ⟨by trivial, h⟩
        · by_cases b2 : 8 ≤ a
          · have b2' : ¬ a ≤ 7 := by
              rw [ti_le, show (7 : Int32).toInt = 7 from rfl]; rw [ti_le, show (8 : Int32).toInt = 8 from rfl] at b2; omega
            simp (decide := true) only [Both, fX_ValueMachine_look, fX_ValueMachine_isGlobal, fR_ValueMachineModel_look, b1, b2, b2', gb_eta, Wp_some, gb_ok, z_0, z_1, z_00, z_01, z_10, z_11, vn_0, vn_1, not_true_eq_false, not_false_eq_true, false_or, or_self, pk_sort, pk_num, x_of, x_integer, x_truth0, x_truth1, gI_uI, gI_uL, gI_uA, gI_uB, gL_uI, gL_uL, gL_uA, gL_uB, gA_uI, gA_uL, gA_uA, gA_uB, gB_uI, gB_uL, gB_uA, gB_uB, Nat.reduceEqDiff, ↓reduceIte]
            exact ⟨by trivial, h⟩
          · have b2' : a ≤ 7 := by
              rw [ti_le, show (7 : Int32).toInt = 7 from rfl]; rw [ti_le, show (8 : Int32).toInt = 8 from rfl] at b2; omega
            obtain ⟨i1, i2, i3⟩ := glob_ok hG b1 b2
            simp (decide := true) only [Both, fX_ValueMachine_look, fX_ValueMachine_isGlobal, fX_ValueMachine_choose, fX_Value_sortOf, fR_ValueMachineModel_look, fR_ValueMachineModel_chooses, b1, b2, b2', i1, i2, gb_eta, Wp_some, gb_ok, z_0, z_1, z_00, z_01, z_10, z_11, vn_0, vn_1, not_true_eq_false, not_false_eq_true, false_or, or_self, pk_sort, pk_num, x_of, x_integer, x_truth0, x_truth1, gI_uI, gI_uL, gI_uA, gI_uB, gL_uI, gL_uL, gL_uA, gL_uB, gA_uI, gA_uL, gA_uA, gA_uB, gB_uI, gB_uL, gB_uA, gB_uB, Nat.reduceEqDiff, ↓reduceIte]
            exact ⟨by trivial, Rel_look h i3⟩
      · by_cases w3 : w = 3
        · subst w3
          rcases o2 with o2 | ⟨o2, o3, o4⟩
          · simp (decide := true) only [Both, fX_ValueMachine_look, fR_ValueMachineModel_look, o1, o2, gb_eta, Wp_some, gb_ok, z_0, z_1, z_00, z_01, z_10, z_11, vn_0, vn_1, not_true_eq_false, not_false_eq_true, false_or, or_self, pk_sort, pk_num, x_of, x_integer, x_truth0, x_truth1, gI_uI, gI_uL, gI_uA, gI_uB, gL_uI, gL_uL, gL_uA, gL_uB, gA_uI, gA_uL, gA_uA, gA_uB, gB_uI, gB_uL, gB_uA, gB_uB, Nat.reduceEqDiff, ↓reduceIte]
            exact ⟨by trivial, h⟩
          · simp (decide := true) only [Both, fX_ValueMachine_look, fX_ValueMachine_choose, fX_Value_sortOf, fR_ValueMachineModel_look, fR_ValueMachineModel_chooses, o1, o2, o3, gb_eta, Wp_some, gb_ok, z_0, z_1, z_00, z_01, z_10, z_11, vn_0, vn_1, not_true_eq_false, not_false_eq_true, false_or, or_self, pk_sort, pk_num, x_of, x_integer, x_truth0, x_truth1, gI_uI, gI_uL, gI_uA, gI_uB, gL_uI, gL_uL, gL_uA, gL_uB, gA_uI, gA_uL, gA_uA, gA_uB, gB_uI, gB_uL, gB_uA, gB_uB, Nat.reduceEqDiff, ↓reduceIte]
            exact ⟨by trivial, Rel_look h o4⟩
        · simp (decide := true) only [Both, fX_ValueMachine_look, fR_ValueMachineModel_look, w0, w1, w2, w3, gb_eta, Wp_some, gb_ok, z_0, z_1, z_00, z_01, z_10, z_11, vn_0, vn_1, not_true_eq_false, not_false_eq_true, false_or, or_self, pk_sort, pk_num, x_of, x_integer, x_truth0, x_truth1, gI_uI, gI_uL, gI_uA, gI_uB, gL_uI, gL_uL, gL_uA, gL_uB, gA_uI, gA_uL, gA_uA, gA_uB, gB_uI, gB_uL, gB_uA, gB_uB, Nat.reduceEqDiff, ↓reduceIte]
          exact ⟨by trivial, h⟩
