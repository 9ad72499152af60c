/-! every instruction; the run -/
theorem step_all {N : Nat} {x m : SG} (hN : 200 ≤ N) (hp : Pre N x m) : StepOK N x m (gA m 0 (gI m 6).toNatClampNeg) (gA m 1 (gI m 6).toNatClampNeg) := by
  obtain ⟨_, h, q1, q2, q3, q4, q5, q6, q7⟩ := id hp
  obtain ⟨_, _, _, c4⟩ := h.1
  obtain ⟨_, _, b0, b34⟩ := c4 (gI m 6).toNatClampNeg (by rw [ti_cl]; omega)
  obtain ⟨j, hj, hj34⟩ : ∃ j : Nat, gA m 0 (gI m 6).toNatClampNeg = nI j ∧ j ≤ 34 := ⟨(gA m 0 (gI m 6).toNatClampNeg).toInt.toNat, ti_of (by omega), by omega⟩
  rw [hj]
  rcases (show j = 0 ∨ j = 1 ∨ j = 2 ∨ j = 3 ∨ j = 4 ∨ j = 5 ∨ j = 6 ∨ j = 7 ∨ j = 8 ∨ j = 9 ∨ j = 10 ∨ j = 11 ∨ j = 12 ∨ j = 13 ∨ j = 14 ∨ j = 15 ∨ j = 16 ∨ j = 17 ∨ j = 18 ∨ j = 19 ∨ j = 20 ∨ j = 21 ∨ j = 22 ∨ j = 23 ∨ j = 24 ∨ j = 25 ∨ j = 26 ∨ j = 27 ∨ j = 28 ∨ j = 29 ∨ j = 30 ∨ j = 31 ∨ j = 32 ∨ j = 33 ∨ j = 34 by omega) with rfl | rfl | rfl | rfl | rfl | rfl | rfl | rfl | rfl | rfl | rfl | rfl | rfl | rfl | rfl | rfl | rfl | rfl | rfl | rfl | rfl | rfl | rfl | rfl | rfl | rfl | rfl | rfl | rfl | rfl | rfl | rfl | rfl | rfl | rfl
  · exact step_0 hp hj rfl
  · exact step_1 hp hj rfl
  · exact step_2 hp hj rfl
  · exact step_3 hp hj rfl
  · exact step_4 hp hj rfl
  · exact step_5 hp hj rfl
  · exact step_6 hp hj rfl
  · exact step_7 hp hj rfl
  · exact step_8 hp hj rfl
  · exact step_9 hp hj rfl
  · exact step_10 hp hj rfl
  · exact step_11 hp hj rfl
  · exact step_12 hp hj rfl
  · exact step_13 hp hj rfl
  · exact step_14 hp hj rfl
  · exact step_15 hp hj rfl
  · exact step_16 hp hj rfl
  · exact step_17 hp hj rfl
  · exact step_18 hp hj rfl
  · exact step_19 hp hj rfl
  · exact step_20 hp hj rfl
  · exact step_21 hp hj rfl
  · exact step_22 hp hj rfl
  · exact step_23 hp hj rfl
  · exact step_24 hp hj rfl
  · exact step_25 hp hj rfl
  · exact step_26 hp hj rfl
  · exact step_27 hN hp hj rfl
  · exact step_28 hN hp hj rfl
  · exact step_29 hp hj rfl
  · exact step_30 hp hj rfl
  · exact step_31 hp hj rfl
  · exact step_32 hp hj rfl
  · exact step_33 hp hj rfl
  · exact step_34 hp hj rfl
theorem run_both {N : Nat} (hN : 200 ≤ N) : ∀ (d k n fx fm : Nat) (x m : SG), k + d = n → n ≤ 20000 → d < fx → d < fm → Run x m → gI x 9 + nI k = gI m 14 → ∃ (r : Int32) (x' m' : SG), fX_ValueMachine_run_L28 N fx (nI n) (nI k) x = some (some r, x') ∧ fR_ValueMachineModel_run_L41 N fm (nI n) (nI k) m = some (r, m') ∧ Rel x' m' ∧ gI m' 0 = gI m 0 := by
  intro d
  induction d with
  | zero =>
    intro k n fx fm x m hk hn hfx hfm hR hd
    obtain ⟨f, rfl⟩ : ∃ f, fx = f + 1 := ⟨fx - 1, by omega⟩
    obtain ⟨f', rfl⟩ : ∃ f, fm = f + 1 := ⟨fm - 1, by omega⟩
    have e : k = n := by omega
    subst e
    obtain ⟨hB, l1, l2, l3, hS, hNx⟩ := hR
    refine ⟨nI k, uI x 9 (gI x 9 + nI k), m, ?_, ?_, ⟨hB, ⟨by show gL x 1 = pk (gI m 10) (gI m 11); rw [l1, l2, l3, pk_0], by show VOk (gI m 1) (gA m 8) (gI m 10) (gI m 11); rw [l2, l3]; exact VOk_0⟩, hS, hNx, hd⟩, rfl⟩
    · unfold fX_ValueMachine_run_L28
      rw [if_pos (nI_le (Nat.le_refl _) (by omega))]
    · unfold fR_ValueMachineModel_run_L41
      rw [if_pos (nI_le (Nat.le_refl _) (by omega))]
  | succ d ih =>
    intro k n fx fm x m hk hn hfx hfm hR hd
    obtain ⟨f, rfl⟩ : ∃ f, fx = f + 1 := ⟨fx - 1, by omega⟩
    obtain ⟨f', rfl⟩ : ∃ f, fm = f + 1 := ⟨fm - 1, by omega⟩
    obtain ⟨hB, l1, l2, l3, hS, hNx⟩ := hR
    have hng : ¬ nI n ≤ nI k := nI_ge (by omega) (by omega)
    obtain ⟨o1, o2⟩ := hS
    obtain ⟨p1, p2, p3⟩ := hNx
    have hend : Rel (uI x 9 (gI x 9 + nI k)) m := ⟨hB, ⟨by show gL x 1 = pk (gI m 10) (gI m 11); rw [l1, l2, l3, pk_0], by show VOk (gI m 1) (gA m 8) (gI m 10) (gI m 11); rw [l2, l3]; exact VOk_0⟩, ⟨o1, o2⟩, ⟨p1, p2, p3⟩, hd⟩
    have hsz : gI x 0 = gI m 1 := hB.1.1
    by_cases hst : gI m 7 = 0
    · by_cases hat : gI m 1 ≤ gI m 6
      · refine ⟨nI k, _, _, ?_, ?_, hend, rfl⟩
        · unfold fX_ValueMachine_run_L28 fX_ValueMachine_state
          rw [if_neg hng, if_pos (o1.trans hst), if_pos (by rw [hsz, p1]; exact hat), gb_ok, if_neg (by decide : ¬ (1 : Int32) = 0)]
        · unfold fR_ValueMachineModel_run_L41
          rw [if_neg hng, if_pos hst, if_pos hat]
      · have hat' : (gI m 6).toInt < (gI m 1).toInt := by rw [ti_le] at hat; omega
        have h150 : (gI m 1).toInt ≤ 150 := hB.1.2.2.1
        have hp : Pre N x m := ⟨by omega, hB, o1.trans hst, hst, p1, p2, hat', ti_in p2 (by omega), by
          have h1 : (1 : Int32).toInt = 1 := rfl
          rw [ti_add (by omega) (by omega), h1]⟩
        obtain ⟨_, x3, hx, hw⟩ := Wp_ex (step_all hN hp)
        obtain ⟨_, m3, hm, w1, w2, w3, w4, w5, w6, w7, w8, w9⟩ := Wp_ex hw
        obtain ⟨r, x', m', r1, r2, r3, r4⟩ := ih (k + 1) n f f' x3 m3 (by omega) hn (by omega) (by omega) ⟨w1, w4.trans l1, w5.trans l2, w6.trans l3, w3, w2⟩ (by rw [w7, w8, ← hd, ← nI_1, Int32.add_assoc])
        refine ⟨r, x', m', ?_, ?_, r3, r4.trans w9⟩
        · obtain ⟨_, _, _, c4⟩ := hB.1
          obtain ⟨ci, cx, _, _⟩ := c4 (gI m 6).toNatClampNeg (by rw [ti_cl]; omega)
          unfold fX_ValueMachine_run_L28 fX_ValueMachine_state fX_Code_instructionAt fX_Code_numberAt
          rw [if_neg hng, if_pos (o1.trans hst), if_neg (by rw [hsz, p1]; exact hat), gb_ok, if_pos rfl, p1, if_neg (ti_in p2 (by omega)), gb_ok, if_neg (ti_in p2 (by omega)), gb_ok, show gA (uI x 8 (gI m 6 + 1)) 0 = gA x 0 from rfl, show gA (uI x 8 (gI m 6 + 1)) 1 = gA x 1 from rfl, ci, cx]
          unfold xst at hx
          rw [p1] at hx
          obtain ⟨fl, s4, y1, y2⟩ := gb_some hx
          rw [y1, gb_ok]
          by_cases z0 : fl = 0
          · rw [if_pos z0] at y2 ⊢
            cases y2
            rw [nI_1]
            exact r1
          · rw [if_neg z0] at y2 ⊢
            by_cases z9 : fl = 9
            · rw [if_pos z9, gb_id] at y2
              rw [if_pos z9, y2, gb_ok, nI_1]
              exact r1
            · rw [if_neg z9, x_integer, gb_ok, gb_id] at y2
              rw [if_neg z9, x_integer, gb_ok, y2, gb_ok, nI_1]
              exact r1
        · unfold fR_ValueMachineModel_run_L41
          rw [if_neg hng, if_pos hst, if_neg hat, hm, gb_ok, nI_1]
          exact r2
    · refine ⟨nI k, _, _, ?_, ?_, hend, rfl⟩
      · unfold fX_ValueMachine_run_L28 fX_ValueMachine_state
        rw [if_neg hng, if_neg (by rw [o1]; exact hst), gb_ok, if_neg (by decide : ¬ (2 : Int32) = 0)]
      · unfold fR_ValueMachineModel_run_L41
        rw [if_neg hng, if_neg hst]
/-- run, as the law sees it: thrown or not, the answer -/
theorem run_ok {N : Nat} (hN : 30000 ≤ N) {x m : SG} (h : Rel x m) (n : Int32) : ∃ (ro : Option Int32) (b : Int32) (x' m' : SG), fX_ValueMachine_run N x n = some (ro, x') ∧ fR_ValueMachineModel_run N m n = some (b, m') ∧ Rel x' m' ∧ ((ro = none ∧ gI m' 0 = 1) ∨ (ro = some b ∧ gI m' 0 = 0)) := by
  obtain ⟨hB, hL, hS, hNx, hd⟩ := h
  by_cases b1 : n < 0
  · refine ⟨none, 0, x, uI m 0 1, ?_, ?_, ⟨hB, hL, hS, hNx, hd⟩, Or.inl ⟨rfl, rfl⟩⟩
    · unfold fX_ValueMachine_run; rw [if_pos b1]
    · unfold fR_ValueMachineModel_run; rw [if_pos b1]
  · by_cases b2 : n ≤ 20000
    · rw [ti_lt, show (0 : Int32).toInt = 0 from rfl] at b1
      have b3 := b2
      rw [ti_le, show (20000 : Int32).toInt = 20000 from rfl] at b3
      obtain ⟨j, hj, hj2⟩ : ∃ j : Nat, n = nI j ∧ j ≤ 20000 := ⟨n.toInt.toNat, ti_of (by omega), by omega⟩
      obtain ⟨r, x', m', r1, r2, r3, r4⟩ := run_both (N := N) (by omega) j 0 j N N (uL x 1 0) (uI (uI (uI m 0 0) 10 0) 11 0) (by omega) hj2 (by omega) (by omega) ⟨hB, rfl, rfl, rfl, hS, hNx⟩ (by rw [nI_0, Int32.add_zero]; exact hd)
      rw [nI_0, ← hj] at r1 r2
      have b1' : ¬ n < 0 := by rw [ti_lt, show (0 : Int32).toInt = 0 from rfl]; exact b1
      refine ⟨some r, r, x', m', ?_, ?_, r3, Or.inr ⟨rfl, r4⟩⟩
      · unfold fX_ValueMachine_run; rw [if_neg b1', if_pos b2]; exact r1
      · unfold fR_ValueMachineModel_run; rw [if_neg b1', if_pos b2]; exact r2
    · refine ⟨none, 0, x, uI m 0 1, ?_, ?_, ⟨hB, hL, hS, hNx, hd⟩, Or.inl ⟨rfl, rfl⟩⟩
      · unfold fX_ValueMachine_run; rw [if_neg b1, if_neg b2]
      · unfold fR_ValueMachineModel_run; rw [if_neg b1, if_neg b2]
