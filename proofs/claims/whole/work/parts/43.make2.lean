theorem free_row {f : Nat → Int32} (h : cnt f 30 < 30) : ∃ t0, t0 < 30 ∧ (∀ j, j < t0 → ¬ f j = 0) ∧ f t0 = 0 := by
  have hex : ∃ t, t < 30 ∧ f t = 0 := by
    by_cases e : ∃ t, t < 30 ∧ f t = 0
    · exact e
    · have := cnt_full (f := f) (n := 30) (fun k hk hz => e ⟨k, hk, hz⟩)
      omega
  obtain ⟨k, ⟨k1, k2⟩, k3⟩ := pk_least (fun t => t < 30 ∧ f t = 0) hex
  exact ⟨k, k1, fun j hj hz => k3 j hj ⟨by omega, hz⟩, k2⟩
set_option maxHeartbeats 4000000 in
theorem make_both {N : Nat} {x m : SG} (hN : 200 ≤ N) (h : RB x m) (hfree : cnt (gA m 8) 30 < 30) {s : Int32} {z : Nat} (hs : (s = 4 ∧ z = 16) ∨ (s = 5 ∧ z ≤ 20)) : ∃ (t0 : Nat) (x' m' : SG), t0 < 30 ∧ fX_Store_make N x s (nI z) = some (pk s (nI t0), x') ∧ fR_ValueMachineModel_makes_L15 N N s (nI z) 0 m = some (nI t0, m') ∧ RB x' m' ∧ FrX x x' ∧ FrM m m' ∧ gA m' 8 t0 = s ∧ gA m' 9 t0 = nI z := by
  obtain ⟨hC, ⟨a1, a2⟩, ⟨s1, s2, s3, s4⟩, hG, hNo, ⟨t1, t2⟩, hK, e5, e6, e10⟩ := h
  obtain ⟨t0, ht, hb, h0⟩ := free_row hfree
  have hz : z ≤ 20 := by rcases hs with ⟨_, q⟩ | ⟨_, q⟩ <;> omega
  have hs0 : ¬ s = 0 := by rcases hs with ⟨q, _⟩ | ⟨q, _⟩ <;> rw [q] <;> decide
  have hx5 : ∀ j, j < 30 → (gA x 5 j = 0 ↔ gA m 8 j = 0) := fun j hj => by
    rw [(t2 j hj).1]
    by_cases q : gA m 8 j = 0
    · rw [if_pos q]; exact ⟨fun _ => q, fun _ => rfl⟩
    · rw [if_neg q]; exact ⟨fun w => absurd w (by decide), fun w => absurd w q⟩
  have r1 := row_L (N := N) (st := x) ht (fun j hj w => hb j hj ((hx5 j (by omega)).mp w)) ((hx5 t0 ht).mpr h0) t0 0 N (by omega) (by omega)
  rw [nI_0] at r1
  obtain ⟨p', p1, p2, p3⟩ := make_L (N := N) (v1 := s) (t0 := t0) (z := z) ht hz z 0 N x (gB x 1) (by omega) (by omega) (fun j hj => by omega)
  have hU : uB x 1 (gB x 1) = x := by
    have q : va_up x.2.2.2 1 (x.2.2.2 1) = x.2.2.2 := by
      funext j
      unfold va_up
      by_cases e : j = 1
      · rw [if_pos e, e]
      · rw [if_neg e]
    show (x.1, x.2.1, x.2.2.1, va_up x.2.2.2 1 (x.2.2.2 1)) = x
    rw [q]
  rw [hU, Nat.add_zero] at p3
  have m1 := r15_free (N := N) (st := m) (v1 := s) (v2 := nI z) ht hb h0 t0 0 N (by omega) (by omega)
  rw [nI_0] at m1
  obtain ⟨c', d', q1, q2, q3⟩ := r85 (N := N) (t0 := t0) ht 20 0 N (uA (uA (uI m 12 (gI m 12 + 1)) 8 (upd (gA m 8) t0 s)) 9 (upd (gA m 9) t0 (nI z))) (gA m 10) (gA m 11) (by omega) (by omega) (fun j hj => by omega)
  have hU2 : uA (uA (uA (uA (uI m 12 (gI m 12 + 1)) 8 (upd (gA m 8) t0 s)) 9 (upd (gA m 9) t0 (nI z))) 10 (gA m 10)) 11 (gA m 11) = uA (uA (uI m 12 (gI m 12 + 1)) 8 (upd (gA m 8) t0 s)) 9 (upd (gA m 9) t0 (nI z)) := by
    have w1 := uA_self (uA (uA (uI m 12 (gI m 12 + 1)) 8 (upd (gA m 8) t0 s)) 9 (upd (gA m 9) t0 (nI z))) 10
    have w1 : uA (uA (uA (uI m 12 (gI m 12 + 1)) 8 (upd (gA m 8) t0 s)) 9 (upd (gA m 9) t0 (nI z))) 10 (gA m 10) = uA (uA (uI m 12 (gI m 12 + 1)) 8 (upd (gA m 8) t0 s)) 9 (upd (gA m 9) t0 (nI z)) := w1
    rw [w1]
    exact uA_self (uA (uA (uI m 12 (gI m 12 + 1)) 8 (upd (gA m 8) t0 s)) 9 (upd (gA m 9) t0 (nI z))) 11
  rw [hU2, nI_0] at q3
  have hm : ∀ t, t < 30 → ¬ gA m 8 t = 0 → upd (gA m 8) t0 s t = gA m 8 t := fun t _ w => pk_un (fun e => w (by rw [e]; exact h0))
  refine ⟨t0, uI (uI (uA (uA (uB x 1 p') 4 (upd (gA x 4) t0 (nI z))) 5 (upd (gA x 5) t0 1)) 4 (gI x 4 + 1)) 5 (gI x 5 + 1), uA (uA (uA (uA (uI m 12 (gI m 12 + 1)) 8 (upd (gA m 8) t0 s)) 9 (upd (gA m 9) t0 (nI z))) 10 c') 11 d', ht, ?_, m1.trans q3, ⟨hC, ⟨a1, VOk_ts a2 hm⟩, ⟨s1, s2, s3, fun j hj => ⟨(s4 j hj).1, VOk_ts (s4 j hj).2 hm⟩⟩, fun j hj => ⟨(hG j hj).1, VOk_ts (hG j hj).2 hm⟩, hNo, ⟨?_, fun t h9 => ?_⟩, fun t h9 hgt j hj => ?_, congrArg (· + 1) e5, e6, e10⟩, ⟨rfl, rfl, rfl, rfl⟩, ⟨rfl, rfl, rfl, rfl, rfl, rfl, rfl, rfl, rfl⟩, pk_us, pk_us⟩
  · unfold fX_Store_make fX_Store_freeRow
    rw [r1, gb_ok, n20b]
    exact p3
  · show gI x 4 + 1 = nI (cnt (upd (gA m 8) t0 s) 30)
    rw [t1, nI_1, cnt_set h0 hs0 ht]
  · show upd (gA x 5) t0 1 t = (if upd (gA m 8) t0 s t = 0 then 0 else 1) ∧ (upd (gA m 8) t0 s t = 0 ∨ TZ (upd (gA m 8) t0 s t) (upd (gA m 9) t0 (nI z) t) (upd (gA x 4) t0 (nI z) t))
    by_cases e : t = t0
    · rw [e, pk_us, pk_us, pk_us, pk_us, if_neg hs0]
      refine ⟨rfl, Or.inr ⟨?_, rfl⟩⟩
      rcases hs with ⟨w1, w2⟩ | ⟨w1, w2⟩
      · exact Or.inl ⟨w1, by rw [w2]; rfl⟩
      · exact Or.inr ⟨w1, by rw [ti_nI (by omega)]; omega, by rw [ti_nI (by omega)]; omega⟩
    · rw [pk_un e, pk_un e, pk_un e, pk_un e]
      exact t2 t h9
  · have hgt : ¬ upd (gA m 8) t0 s t = 0 := hgt
    have hj : (j : Int) < (upd (gA m 9) t0 (nI z) t).toInt := hj
    show VP (gI m 1) (upd (gA m 8) t0 s) (p' (20 * t + j)) (c' (20 * t + j)) (d' (20 * t + j))
    by_cases e : t = t0
    · rw [e, pk_us, ti_nI (by omega)] at hj
      rw [e, p1 j (by omega), (q1 j (by omega)).1, (q1 j (by omega)).2]
      exact ⟨pk_0.symm, VOk_0⟩
    · rw [pk_un e] at hj hgt
      have h20 : (gA m 9 t).toInt ≤ 20 := by
        rcases (t2 t h9).2 with w | ⟨⟨_, w⟩ | ⟨_, _, w⟩, _⟩
        · exact absurd w hgt
        · rw [w]; decide
        · exact w
      rw [p2 _ (by omega), (q2 _ (by omega)).1, (q2 _ (by omega)).2]
      exact ⟨(hK t h9 hgt j hj).1, VOk_ts (hK t h9 hgt j hj).2 hm⟩
/-- make, with the sweep ahead of it where all rows are taken -/
theorem mk_both {N : Nat} {x m : SG} (hN : 200 ≤ N) (h : RB x m) (hw : gI m 16 = 0) {s : Int32} {z : Nat} (hs : (s = 4 ∧ z = 16) ∨ (s = 5 ∧ z ≤ 20)) : ∃ (x1 m1 : SG), RB x1 m1 ∧ FrX x x1 ∧ FrM m m1 ∧ fX_ValueMachine_sweepIfFull N x = some ((), x1) ∧
    ((¬ gI x1 4 < 30 ∧ fR_ValueMachineModel_makes N m s (nI z) = some (-1, uI m1 16 6)) ∨ (gI x1 4 < 30 ∧ ∃ (t0 : Nat) (x2 m2 : SG), t0 < 30 ∧ fX_Store_make N x1 s (nI z) = some (pk s (nI t0), x2) ∧ fR_ValueMachineModel_makes N m s (nI z) = some (nI t0, m2) ∧ RB x2 m2 ∧ FrX x x2 ∧ FrM m m2 ∧ gA m2 8 t0 = s ∧ gA m2 9 t0 = nI z)) := by
  have hc : ∀ {a b : SG}, RB a b → (gI a 4 < 30 ↔ cnt (gA b 8) 30 < 30) := fun {a b} q => by
    have := cnt_le (gA b 8) 30
    rw [q.2.2.2.2.2.1.1, ti_lt, ti_nI (by omega), show (30 : Int32).toInt = 30 from rfl]; omega
  have hl := cnt_le (gA m 8) 30
  by_cases hf : cnt (gA m 8) 30 = 30
  · obtain ⟨x1, m1, q1, q2, q3, q4, q5⟩ := sweep_both hN h hf
    have hmk : fR_ValueMachineModel_makes N m s (nI z) = fR_ValueMachineModel_makes_L15 N N s (nI z) 0 m1 := by
      unfold fR_ValueMachineModel_makes
      rw [many_eq (by omega), gb_ok, hf, if_pos (show nI 30 = 30 from rfl), q2, gb_ok]
    refine ⟨x1, m1, q3, q4, q5, q1, ?_⟩
    by_cases hf1 : cnt (gA m1 8) 30 < 30
    · obtain ⟨t0, x2, m2, r0, r1, r2, r3, r4, r5, r6, r7⟩ := make_both hN q3 hf1 hs
      exact Or.inr ⟨(hc q3).mpr hf1, t0, x2, m2, r0, r1, hmk.trans r2, r3, FrX_tr q4 r4, FrM_tr q5 r5, r6, r7⟩
    · have hl1 := cnt_le (gA m1 8) 30
      have w := r15_full (N := N) (st := m1) (v1 := s) (v2 := nI z) (q5.2.2.2.2.2.2.2.1.trans hw) (cnt_all (by omega)) 30 0 N (by omega) (by omega)
      rw [nI_0] at w
      exact Or.inl ⟨fun z9 => hf1 ((hc q3).mp z9), hmk.trans w⟩
  · have hmk : fR_ValueMachineModel_makes N m s (nI z) = fR_ValueMachineModel_makes_L15 N N s (nI z) 0 m := by
      unfold fR_ValueMachineModel_makes
      rw [many_eq (by omega), gb_ok, if_neg (show ¬ nI (cnt (gA m 8) 30) = 30 from fun e => hf (by
        rw [ti_eq, ti_nI (by omega), show (30 : Int32).toInt = 30 from rfl] at e; omega))]
    have hx : gI x 4 < 30 := (hc h).mpr (by omega)
    obtain ⟨t0, x2, m2, r0, r1, r2, r3, r4, r5, r6, r7⟩ := make_both hN h (by omega) hs
    refine ⟨x, m, h, FrX_rf x, FrM_rf m, ?_, Or.inr ⟨hx, t0, x2, m2, r0, r1, hmk.trans r2, r3, r4, r5, r6, r7⟩⟩
    unfold fX_ValueMachine_sweepIfFull fX_Store_isFull
    rw [if_pos hx, gb_ok, if_pos rfl]
/-! OBJECT -/
set_option maxHeartbeats 4000000 in
theorem step_27 {N : Nat} {x m : SG} {a : Int32} (hN2 : 200 ≤ N) (hp : Pre N x m) (hc : gA m 0 (gI m 6).toNatClampNeg = 27) (ha : gA m 1 (gI m 6).toNatClampNeg = a) : StepOK N x m 27 a := by
  obtain ⟨hN, h, q1, q2, q3, q4, q5, q6, q7⟩ := id hp
  obtain ⟨x1, m1, r1, r2, r3, r4, r5⟩ := mk_both (N := N) (x := uI x 8 (gI m 6 + 1)) (m := uI (uI m 16 0) 14 (gI m 14 + 1)) (s := 4) (z := 16) hN2 h rfl (Or.inl ⟨rfl, rfl⟩)
  rw [show nI 16 = 16 from rfl] at r5
  obtain ⟨f1, f2, f3, f4⟩ := id r2
  obtain ⟨g1, g2, g3, g4, g5, g6, g7, g8, g9⟩ := id r3
  rcases r5 with ⟨b1, b2⟩ | ⟨b1, t0, x2, m2, b0, b2, b3, b4, b5, b6, b7, b8⟩
  · simp (decide := true) only [StepOK, xst, fX_ValueMachine_perform, fX_ValueMachine_makeObject, fX_Store_isFull, fR_ValueMachineModel_step, fR_ValueMachineModel_object, gb_id, gb_eta, gb_gb, hc, ha, q6, q3, r4, b1, b2, Wp_some, gb_ok, z_0, z_1, z_00, z_01, z_10, z_11, vn_0, vn_1, not_true_eq_false, not_false_eq_true, false_or, or_self, pk_sort, pk_num, x_of, x_integer, x_truth0, x_truth1, gI_uI, gI_uL, gI_uA, gI_uB, gL_uI, gL_uL, gL_uA, gL_uB, gA_uI, gA_uL, gA_uA, gA_uB, gB_uI, gB_uL, gB_uA, gB_uB, Nat.reduceEqDiff, ↓reduceIte]
    exact fault_ok2 hp r1 ⟨f2.trans q1, g4.trans q2, g3, f1, g5, g6, f4, g7, g9⟩ g1.symm (VOk_3 _)
  · have hne : ¬ nI t0 = -1 := by rw [ti_eq, ti_nI (by omega), show (-1 : Int32).toInt = -1 from rfl]; omega
    obtain ⟨k1, k2, k3, k4⟩ := id b5
    obtain ⟨l1, l2, l3, l4, l5, l6, l7, l8, l9⟩ := id b6
    have l8 : gI m2 16 = 0 := l8
    have l3 : gI m2 6 = gI m 6 := l3
    have l1 : gI m2 1 = gI m 1 := l1
    have hv : VOk (gI m2 1) (gA m2 8) 4 (nI t0) := Or.inr (Or.inr (Or.inl ⟨Or.inl rfl, by rw [ti_nI (by omega)]; omega, by rw [ti_nI (by omega)]; omega, by rw [nI_clamp (by omega)]; exact b7⟩))
    simp (decide := true) only [StepOK, xst, fX_ValueMachine_perform, fX_ValueMachine_makeObject, fX_Store_isFull, fX_ValueMachine_accept, fR_ValueMachineModel_step, fR_ValueMachineModel_object, fR_ValueMachineModel_acc, gb_id, gb_eta, gb_gb, hc, ha, q6, q3, r4, b1, b2, b3, hne, l8, l3, Wp_some, gb_ok, z_0, z_1, z_00, z_01, z_10, z_11, vn_0, vn_1, not_true_eq_false, not_false_eq_true, false_or, or_self, pk_sort, pk_num, x_of, x_integer, x_truth0, x_truth1, gI_uI, gI_uL, gI_uA, gI_uB, gL_uI, gL_uL, gL_uA, gL_uB, gA_uI, gA_uL, gA_uA, gA_uB, gB_uI, gB_uL, gB_uA, gB_uB, Nat.reduceEqDiff, ↓reduceIte]
    obtain ⟨hC, hA, hS, hG, hNo, hT, hK, e5, e6, e10⟩ := b4
    exact ⟨⟨hC, ⟨rfl, hv⟩, hS, hG, hNo, hT, hK, e5, e6, e10⟩, ⟨k3, (adv hp).2.1, by show (gI m 6 + 1).toInt ≤ (gI m2 1).toInt; rw [l1]; exact (adv hp).2.2⟩, ⟨(k2.trans q1).trans (l4.trans q2).symm, Or.inl (l4.trans q2)⟩, k1, l5, l6, k4, l7, l9⟩
/-! ARRAY -/
theorem fill_both {N t0 a : Nat} (ht : t0 < 30) (ha20 : a ≤ 20) : ∀ (d k fx fm : Nat) (x m : SG) (h : Nat), k + d = a → d < fx → d < fm → RB x m → gI m 4 = nI h → a ≤ h → h ≤ 120 → gA m 8 t0 = 5 → gA m 9 t0 = nI a → ∃ x' m', RB x' m' ∧ FrX x x' ∧ FrM m m' ∧ gA m' 8 t0 = 5 ∧ gI x' 1 = nI h ∧ fX_ValueMachine_makeArray_L51 N fx (nI a) (pk 5 (nI t0)) (nI k) x = some (0, uL (uI x' 1 (nI h - nI a)) 0 (pk 5 (nI t0))) ∧ fR_ValueMachineModel_array_L46 N fm (nI a) (nI t0) (nI k) m = some ((), uI (uI (uI m' 4 (nI h - nI a)) 2 5) 3 (nI t0)) := by
  intro d
  induction d with
  | zero =>
    intro k fx fm x m h hk hfx hfm hR h4 hah h120 h8 h9
    obtain ⟨n, rfl⟩ : ∃ n, fx = n + 1 := ⟨fx - 1, by omega⟩
    obtain ⟨n', rfl⟩ : ∃ n, fm = n + 1 := ⟨fm - 1, by omega⟩
    have e : k = a := by omega
    subst e
    have hx1 : gI x 1 = nI h := hR.2.2.1.1.trans h4
    refine ⟨x, m, hR, FrX_rf x, FrM_rf m, h8, hx1, ?_, ?_⟩
    · unfold fX_ValueMachine_makeArray_L51 fX_ValueStack_drop fX_ValueMachine_accept
      rw [if_pos (nI_le (Nat.le_refl _) (by omega)), gb_ok, gb_ok, hx1]
    · unfold fR_ValueMachineModel_array_L46 fR_ValueMachineModel_acc
      rw [if_pos (nI_le (Nat.le_refl _) (by omega)), gb_ok, h4]
  | succ d ih =>
    intro k fx fm x m h hk hfx hfm hR h4 hah h120 h8 h9
    obtain ⟨n, rfl⟩ : ∃ n, fx = n + 1 := ⟨fx - 1, by omega⟩
    obtain ⟨n', rfl⟩ : ∃ n, fm = n + 1 := ⟨fm - 1, by omega⟩
    have hx1 : gI x 1 = nI h := hR.2.2.1.1.trans h4
    have hS := hR.2.2.1.2.2.2
    have hhI : (gI m 4).toInt = (h : Int) := by rw [h4, ti_nI (by omega)]
    obtain ⟨v1, v2⟩ := hS (h - a + k) (by omega)
    have ex : nI h - 1 - (nI a - 1 - nI k) = nI (h - a + k) := by
      obtain ⟨h', rfl⟩ : ∃ h', h = h' + 1 := ⟨h - 1, by omega⟩
      obtain ⟨a', rfl⟩ : ∃ a', a = a' + 1 := ⟨a - 1, by omega⟩
      rw [nI_pred, nI_pred, pk_sub (by omega), pk_sub (by omega)]
      congr 1
      omega
    have em : nI h - nI a + nI k = nI (h - a + k) := by rw [pk_sub (by omega), nI_add]
    have ep : nI t0 * 20 + nI k = nI (20 * t0 + k) := by rw [n20b, nI_add]
    obtain ⟨hC, hA, hSt, hG, hNo, hT, hK, e5, e6, e10⟩ := id hR
    have hR' : RB (uB x 1 (vp_updL (gB x 1) (20 * t0 + k) (pk (gA m 2 (h - a + k)) (gA m 3 (h - a + k))))) (uA (uA m 10 (upd (gA m 10) (20 * t0 + k) (gA m 2 (h - a + k)))) 11 (upd (gA m 11) (20 * t0 + k) (gA m 3 (h - a + k)))) := ⟨hC, hA, hSt, hG, hNo, hT, kset_ok hK _ v2, e5, e6, e10⟩
    obtain ⟨x', m', g1, g2, g3, g4, g5, g6, g7⟩ := ih (k + 1) n n' _ _ h (by omega) (by omega) (by omega) hR' h4 hah h120 h8 h9
    refine ⟨x', m', g1, g2, g3, g4, g5, ?_, ?_⟩
    · unfold fX_ValueMachine_makeArray_L51 fX_ValueStack_at fX_Store_setPart fX_Value_numberOf
      rw [if_neg (nI_ge (by omega) (by omega)), hx1, ex, if_neg (nI_in (by omega) (by omega)), gb_ok, pk_num, gb_ok, ep, if_neg (nI_in (by omega) (by omega)), gb_ok, nI_clamp (by omega), nI_clamp (by omega), v1, nI_1]
      exact g6
    · unfold fR_ValueMachineModel_array_L46
      rw [if_neg (nI_ge (by omega) (by omega)), h4, em, n20, if_neg (nI_in (by omega) (by omega)), if_neg (nI_in (by omega) (by omega)), if_neg (nI_in (by omega) (by omega)), if_neg (nI_in (by omega) (by omega)), nI_clamp (by omega), nI_clamp (by omega), nI_1]
      exact g7
set_option maxHeartbeats 4000000 in
theorem step_28 {N : Nat} {x m : SG} {a : Int32} (hN2 : 200 ≤ N) (hp : Pre N x m) (hc : gA m 0 (gI m 6).toNatClampNeg = 28) (ha : gA m 1 (gI m 6).toNatClampNeg = a) : StepOK N x m 28 a := by
  obtain ⟨hN, h, q1, q2, q3, q4, q5, q6, q7⟩ := id hp
  obtain ⟨hC, hA, hS, hG, hNo, hT, hK, e5, e6, e10⟩ := id h
  obtain ⟨s1, s2, s3, s4⟩ := id hS
  by_cases b1 : a < 0
  · by_cases b3 : 20 < a
    · rw [ti_lt, show (0 : Int32).toInt = 0 from rfl] at b1
      rw [ti_lt, show (20 : Int32).toInt = 20 from rfl] at b3
      omega
    · simp (decide := true) only [StepOK, xst, fX_ValueMachine_perform, fX_ValueMachine_makeArray, fX_ValueStack_holds, fR_ValueMachineModel_step, fR_ValueMachineModel_array, fR_ValueMachineModel_has, fR_ValueMachineModel_needs, gb_id, gb_eta, gb_gb, hc, ha, q6, q3, s1, b1, b3, Wp_some, gb_ok, z_0, z_1, z_00, z_01, z_10, z_11, vn_0, vn_1, not_true_eq_false, not_false_eq_true, false_or, or_self, pk_sort, pk_num, x_of, x_integer, x_truth0, x_truth1, gI_uI, gI_uL, gI_uA, gI_uB, gL_uI, gL_uL, gL_uA, gL_uB, gA_uI, gA_uL, gA_uA, gA_uB, gB_uI, gB_uL, gB_uA, gB_uB, Nat.reduceEqDiff, ↓reduceIte]
      exact fault_ok2 hp h ⟨q1, q2, rfl, rfl, rfl, rfl, rfl, rfl, rfl⟩ rfl (VOk_3 _)
  · by_cases b2 : gI m 4 < a
    · by_cases b3 : 20 < a
      · simp (decide := true) only [StepOK, xst, fX_ValueMachine_perform, fX_ValueMachine_makeArray, fX_ValueStack_holds, fR_ValueMachineModel_step, fR_ValueMachineModel_array, fR_ValueMachineModel_has, fR_ValueMachineModel_needs, gb_id, gb_eta, gb_gb, hc, ha, q6, q3, s1, b1, b2, b3, Wp_some, gb_ok, z_0, z_1, z_00, z_01, z_10, z_11, vn_0, vn_1, not_true_eq_false, not_false_eq_true, false_or, or_self, pk_sort, pk_num, x_of, x_integer, x_truth0, x_truth1, gI_uI, gI_uL, gI_uA, gI_uB, gL_uI, gL_uL, gL_uA, gL_uB, gA_uI, gA_uL, gA_uA, gA_uB, gB_uI, gB_uL, gB_uA, gB_uB, Nat.reduceEqDiff, ↓reduceIte]
        exact fault_ok2 hp h ⟨q1, q2, rfl, rfl, rfl, rfl, rfl, rfl, rfl⟩ rfl (VOk_3 _)
      · simp (decide := true) only [StepOK, xst, fX_ValueMachine_perform, fX_ValueMachine_makeArray, fX_ValueStack_holds, fR_ValueMachineModel_step, fR_ValueMachineModel_array, fR_ValueMachineModel_has, fR_ValueMachineModel_needs, gb_id, gb_eta, gb_gb, hc, ha, q6, q3, s1, b1, b2, b3, Wp_some, gb_ok, z_0, z_1, z_00, z_01, z_10, z_11, vn_0, vn_1, not_true_eq_false, not_false_eq_true, false_or, or_self, pk_sort, pk_num, x_of, x_integer, x_truth0, x_truth1, gI_uI, gI_uL, gI_uA, gI_uB, gL_uI, gL_uL, gL_uA, gL_uB, gA_uI, gA_uL, gA_uA, gA_uB, gB_uI, gB_uL, gB_uA, gB_uB, Nat.reduceEqDiff, ↓reduceIte]
        exact fault_ok2 hp h ⟨q1, q2, rfl, rfl, rfl, rfl, rfl, rfl, rfl⟩ rfl (VOk_3 _)
    · by_cases b3 : 20 < a
      · have b3' : ¬ a ≤ 20 := by rw [ti_le]; rw [ti_lt] at b3; omega
        simp (decide := true) only [StepOK, xst, fX_ValueMachine_perform, fX_ValueMachine_makeArray, fX_ValueStack_holds, fR_ValueMachineModel_step, fR_ValueMachineModel_array, fR_ValueMachineModel_has, fR_ValueMachineModel_needs, gb_id, gb_eta, gb_gb, hc, ha, q6, q3, s1, b1, b2, b3, b3', Wp_some, gb_ok, z_0, z_1, z_00, z_01, z_10, z_11, vn_0, vn_1, not_true_eq_false, not_false_eq_true, false_or, or_self, pk_sort, pk_num, x_of, x_integer, x_truth0, x_truth1, gI_uI, gI_uL, gI_uA, gI_uB, gL_uI, gL_uL, gL_uA, gL_uB, gA_uI, gA_uL, gA_uA, gA_uB, gB_uI, gB_uL, gB_uA, gB_uB, Nat.reduceEqDiff, ↓reduceIte]
        exact fault_ok2 hp h ⟨q1, q2, rfl, rfl, rfl, rfl, rfl, rfl, rfl⟩ rfl (VOk_3 _)
      · have b3' : a ≤ 20 := by rw [ti_le]; rw [ti_lt] at b3; omega
        have i1 : ¬ a.toInt < 0 := by rw [ti_lt, show (0 : Int32).toInt = 0 from rfl] at b1; exact b1
        have i2 : ¬ (gI m 4).toInt < a.toInt := by rw [ti_lt] at b2; exact b2
        have i3 : a.toInt ≤ 20 := by rw [ti_le, show (20 : Int32).toInt = 20 from rfl] at b3'; exact b3'
        obtain ⟨z, hz, hz20⟩ : ∃ z : Nat, a = nI z ∧ z ≤ 20 := ⟨a.toInt.toNat, ti_of (by omega), by omega⟩
        obtain ⟨k, hk, hk120⟩ : ∃ k : Nat, gI m 4 = nI k ∧ k ≤ 120 := ⟨(gI m 4).toInt.toNat, ti_of (by omega), by omega⟩
        have hzk : z ≤ k := by
          rw [hz, hk, ti_nI (by omega), ti_nI (by omega)] at i2; omega
        obtain ⟨x1, m1, r1, r2, r3, r4, r5⟩ := mk_both (N := N) (x := uI x 8 (gI m 6 + 1)) (m := uI (uI m 16 0) 14 (gI m 14 + 1)) (s := 5) (z := z) hN2 h rfl (Or.inr ⟨rfl, hz20⟩)
        rw [← hz] at r5
        obtain ⟨f1, f2, f3, f4⟩ := id r2
        obtain ⟨g1, g2, g3, g4, g5, g6, g7, g8, g9⟩ := id r3
        rcases r5 with ⟨c1, c2⟩ | ⟨c1, t0, x2, m2, c0, c2, c3, c4, c5, c6, c7, c8⟩
        · simp (decide := true) only [StepOK, xst, fX_ValueMachine_perform, fX_ValueMachine_makeArray, fX_ValueStack_holds, fX_Store_isFull, fR_ValueMachineModel_step, fR_ValueMachineModel_array, fR_ValueMachineModel_has, fR_ValueMachineModel_needs, gb_id, gb_eta, gb_gb, hc, ha, q6, q3, s1, b1, b2, b3, b3', r4, c1, c2, Wp_some, gb_ok, z_0, z_1, z_00, z_01, z_10, z_11, vn_0, vn_1, not_true_eq_false, not_false_eq_true, false_or, or_self, pk_sort, pk_num, x_of, x_integer, x_truth0, x_truth1, gI_uI, gI_uL, gI_uA, gI_uB, gL_uI, gL_uL, gL_uA, gL_uB, gA_uI, gA_uL, gA_uA, gA_uB, gB_uI, gB_uL, gB_uA, gB_uB, Nat.reduceEqDiff, ↓reduceIte]
          exact fault_ok2 hp r1 ⟨f2.trans q1, g4.trans q2, g3, f1, g5, g6, f4, g7, g9⟩ g1.symm (VOk_3 _)
        · have hne : ¬ nI t0 = -1 := by rw [ti_eq, ti_nI (by omega), show (-1 : Int32).toInt = -1 from rfl]; omega
          have h42 : gI m2 4 = nI k := c6.2.1.trans hk
          obtain ⟨x3, m3, d1, d2, d3, d4, d5, d6, d7⟩ := fill_both (N := N) (t0 := t0) (a := z) c0 hz20 z 0 N N x2 m2 k (by omega) (by omega) (by omega) c4 h42 hzk hk120 c7 (by rw [c8, hz])
          rw [← hz, nI_0] at d6 d7
          obtain ⟨k1, k2, k3, k4⟩ := FrX_tr c5 d2
          obtain ⟨l1, l2, l3, l4, l5, l6, l7, l8, l9⟩ := FrM_tr c6 d3
          have l8 : gI m3 16 = 0 := l8
          have l3 : gI m3 6 = gI m 6 := l3
          have l1 : gI m3 1 = gI m 1 := l1
          have hv : VOk (gI m3 1) (gA m3 8) 5 (nI t0) := Or.inr (Or.inr (Or.inl ⟨Or.inr rfl, by rw [ti_nI (by omega)]; omega, by rw [ti_nI (by omega)]; omega, by rw [nI_clamp (by omega)]; exact d4⟩))
          simp (decide := true) only [StepOK, xst, fX_ValueMachine_perform, fX_ValueMachine_makeArray, fX_ValueStack_holds, fX_Store_isFull, fR_ValueMachineModel_step, fR_ValueMachineModel_array, fR_ValueMachineModel_has, fR_ValueMachineModel_needs, gb_id, gb_eta, gb_gb, hc, ha, q6, q3, s1, b1, b2, b3, b3', r4, c1, c2, c3, hne, d6, d7, l8, l3, Wp_some, gb_ok, z_0, z_1, z_00, z_01, z_10, z_11, vn_0, vn_1, not_true_eq_false, not_false_eq_true, false_or, or_self, pk_sort, pk_num, x_of, x_integer, x_truth0, x_truth1, gI_uI, gI_uL, gI_uA, gI_uB, gL_uI, gL_uL, gL_uA, gL_uB, gA_uI, gA_uL, gA_uA, gA_uB, gB_uI, gB_uL, gB_uA, gB_uB, Nat.reduceEqDiff, ↓reduceIte]
          obtain ⟨hC, hA, hS3, hG, hNo, hT, hK, e5, e6, e10⟩ := d1
          have h43 : gI m3 4 = nI k := l2.trans hk
          have hS4 := spop_ok (a := a) hS3 b1 (by rw [h43, ← hk]; exact b2)
          rw [h43] at hS4
          exact ⟨⟨hC, ⟨rfl, hv⟩, hS4, hG, hNo, hT, hK, e5, e6, e10⟩, ⟨k3, (adv hp).2.1, by show (gI m 6 + 1).toInt ≤ (gI m3 1).toInt; rw [l1]; exact (adv hp).2.2⟩, ⟨(k2.trans q1).trans (l4.trans q2).symm, Or.inl (l4.trans q2)⟩, k1, l5, l6, k4, l7, l9⟩
