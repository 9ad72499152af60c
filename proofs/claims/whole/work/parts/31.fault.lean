/-! a step of both; what goes wrong on both sides -/
def Post (x m x3 m3 : SG) : Prop := RB x3 m3 ∧ RN x3 m3 ∧ RS x3 m3 ∧ gL x3 1 = gL x 1 ∧ gI m3 10 = gI m 10 ∧ gI m3 11 = gI m 11 ∧ gI x3 9 = gI x 9 ∧ gI m3 14 = gI m 14 + 1 ∧ gI m3 0 = gI m 0
def FF (x m x2 m2 : SG) : Prop := gI x2 7 = 0 ∧ gI m2 7 = 0 ∧ gI m2 6 = gI m 6 ∧ gL x2 1 = gL x 1 ∧ gI m2 10 = gI m 10 ∧ gI m2 11 = gI m 11 ∧ gI x2 9 = gI x 9 ∧ gI m2 14 = gI m 14 + 1 ∧ gI m2 0 = gI m 0
theorem fault_ok {N : Nat} {x m X2 M2 : SG} {s n : Int32} {a : Int32} (hN : 41 ≤ N) (h : RB X2 M2) (hF : FF x m X2 M2) (ha : a = gI m 6) (h0 : 0 ≤ (gI m 6).toInt) (h1 : (gI m 6).toInt ≤ (gI M2 1).toInt) (hv : VOk (gI M2 1) (gA M2 8) s n) :
    Wp (fX_ValueMachine_goWrong N X2 a (pk s n)) fun _ x3 => Wp (gb (fR_ValueMachineModel_falls N M2 s n) (fun _ s9 => some ((), s9))) fun _ m3 => Post x m x3 m3 := by
  obtain ⟨hC, hA, ⟨s1, s2, s3, s4⟩, hG, ⟨n1, n2, n3, n4⟩, hT, hK, e5, e6, e10⟩ := h
  obtain ⟨f1, f2, f3, f4, f5, f6, f7, f8, f9⟩ := hF
  obtain ⟨k, hk, hk40⟩ : ∃ k : Nat, gI M2 5 = nI k ∧ k ≤ 40 := ⟨(gI M2 5).toInt.toNat, ti_of (by omega), by omega⟩
  have hkI : (gI M2 5).toInt = (k : Int) := by rw [hk, ti_nI (by omega)]
  have hk2 : gI X2 2 = nI k := by rw [n1, hk]
  have hlt : lt_ (gA X2 3) k = lt_ (gA M2 7) k := lt_congr (fun j hj => (n4 j (by omega)).2.1)
  have hx := late_eq (N := N) (st := uI X2 10 (gI X2 10 + 1)) (n := k) hk2 hk40 hN
  have hx : fX_Notes_latestTrap N (uI X2 10 (gI X2 10 + 1)) = some (lr (lt_ (gA X2 3) k), uI X2 10 (gI X2 10 + 1)) := hx
  rw [hlt] at hx
  unfold fX_ValueMachine_goWrong fR_ValueMachineModel_falls
  rw [hx, gb_ok]
  cases hl : lt_ (gA M2 7) k with
  | none =>
    have hm := falls_none (N := N) (fuel := N) (v1 := s) (v2 := n) (st := uI M2 15 (gI M2 15 + 1)) (n := k) hk hk40 (by omega) hN hl
    rw [hm, if_pos (show lr none = -1 from rfl), Wp_some, gb_ok, Wp_some]
    simp only [Post, RB, RN, RS, gI_uI, gI_uL, gI_uA, gI_uB, gL_uI, gL_uL, gL_uA, gL_uB, gA_uI, gA_uL, gA_uA, gA_uB, gB_uI, gB_uL, gB_uA, gB_uB, Nat.reduceEqDiff, ↓reduceIte]
    refine ⟨⟨hC, hA, ⟨s1, s2, s3, s4⟩, hG, ⟨n1, n2, n3, n4⟩, hT, hK, e5, e6, by rw [e10]⟩, ⟨by rw [ha, f3], by rw [f3]; exact h0, by rw [f3]; exact h1⟩, ⟨trivial, Or.inr ⟨trivial, rfl, hv⟩⟩, f4, f5, f6, f7, f8, f9⟩
  | some j =>
    obtain ⟨j1, j2, j3⟩ := lt_some hl
    have hm := falls_some (N := N) (v1 := s) (v2 := n) hN (k - 1 - j) (uI M2 15 (gI M2 15 + 1)) k j N (by omega) hk hk40 (by omega) hl
    have hi := nI_in (c := j) (N := 40) (by omega) (by omega)
    have hne : ¬ lr (some j) = -1 := by
      show ¬ nI j = -1
      rw [ti_eq, ti_nI (by omega), show (-1 : Int32).toInt = -1 from rfl]
      omega
    rw [hm, if_neg hne, show lr (some j) = nI j from rfl]
    unfold fX_Notes_placeOf fX_Notes_heightOf
    rw [if_neg hi, gb_ok, if_neg hi, gb_ok, Wp_some, gb_ok, Wp_some, nI_clamp (by omega)]
    obtain ⟨q1, q2, q3, q4, q5⟩ := n4 j (by omega)
    have q5 : 0 ≤ (gA M2 7 j).toInt := by
      rcases q5 with q5 | q5
      · exact absurd q5 j2
      · exact q5
    simp only [Post, RB, RN, RS, gI_uI, gI_uL, gI_uA, gI_uB, gL_uI, gL_uL, gL_uA, gL_uB, gA_uI, gA_uL, gA_uA, gA_uB, gB_uI, gB_uL, gB_uA, gB_uB, Nat.reduceEqDiff, ↓reduceIte]
    rw [q2, s1]
    have hmin : (if gA M2 7 j < gI M2 4 then gA M2 7 j else gI M2 4) = (if gA M2 7 j ≤ gI M2 4 then gA M2 7 j else gI M2 4) := by
      by_cases c1 : gA M2 7 j < gI M2 4
      · rw [if_pos c1, if_pos (by rw [ti_le]; rw [ti_lt] at c1; omega)]
      · rw [if_neg c1]
        by_cases c2 : gA M2 7 j ≤ gI M2 4
        · rw [if_pos c2, ti_eq]; rw [ti_lt] at c1; rw [ti_le] at c2; omega
        · rw [if_neg c2]
    rw [hmin]
    have hb : 0 ≤ (if gA M2 7 j ≤ gI M2 4 then gA M2 7 j else gI M2 4).toInt ∧ (if gA M2 7 j ≤ gI M2 4 then gA M2 7 j else gI M2 4).toInt ≤ (gI M2 4).toInt := by
      by_cases c2 : gA M2 7 j ≤ gI M2 4
      · rw [if_pos c2]; rw [ti_le] at c2; omega
      · rw [if_neg c2]; omega
    have hj : (nI j).toInt = (j : Int) := ti_nI (by omega)
    refine ⟨⟨hC, ⟨rfl, hv⟩, ⟨rfl, hb.1, by omega, fun i hi => s4 i (by omega)⟩, hG, ⟨rfl, by omega, by omega, fun i hi => n4 i (by omega)⟩, hT, hK, e5, e6, by rw [e10]⟩, ⟨q1, q3, q4⟩, ⟨by rw [f1, f2], Or.inl f2⟩, f4, f5, f6, f7, f8, f9⟩
