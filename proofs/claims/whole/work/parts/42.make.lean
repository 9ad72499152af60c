/-! making a thing, on both sides -/
def FrX (x x' : SG) : Prop := gL x' 1 = gL x 1 ∧ gI x' 7 = gI x 7 ∧ gI x' 8 = gI x 8 ∧ gI x' 9 = gI x 9
def FrM (m m' : SG) : Prop := gI m' 1 = gI m 1 ∧ gI m' 4 = gI m 4 ∧ gI m' 6 = gI m 6 ∧ gI m' 7 = gI m 7 ∧ gI m' 10 = gI m 10 ∧ gI m' 11 = gI m 11 ∧ gI m' 14 = gI m 14 ∧ gI m' 16 = gI m 16 ∧ gI m' 0 = gI m 0
theorem FrX_rf (x : SG) : FrX x x := ⟨rfl, rfl, rfl, rfl⟩
theorem FrM_rf (m : SG) : FrM m m := ⟨rfl, rfl, rfl, rfl, rfl, rfl, rfl, rfl, rfl⟩
theorem FrX_tr {a b c : SG} (h : FrX a b) (k : FrX b c) : FrX a c := ⟨k.1.trans h.1, k.2.1.trans h.2.1, k.2.2.1.trans h.2.2.1, k.2.2.2.trans h.2.2.2⟩
theorem FrM_tr {a b c : SG} (h : FrM a b) (k : FrM b c) : FrM a c := by
  obtain ⟨h1, h2, h3, h4, h5, h6, h7, h8, h9⟩ := h
  obtain ⟨k1, k2, k3, k4, k5, k6, k7, k8, k9⟩ := k
  exact ⟨k1.trans h1, k2.trans h2, k3.trans h3, k4.trans h4, k5.trans h5, k6.trans h6, k7.trans h7, k8.trans h8, k9.trans h9⟩
theorem many_L {N : Nat} {st : SG} : ∀ (d k fuel : Nat), k + d = 30 → d < fuel → fR_ValueMachineModel_many_L4 N fuel (nI (cnt (gA st 8) k)) (nI k) st = some (nI (cnt (gA st 8) 30), st) := by
  intro d
  induction d with
  | zero =>
    intro k fuel hk hf
    obtain ⟨n, rfl⟩ : ∃ n, fuel = n + 1 := ⟨fuel - 1, by omega⟩
    have e : k = 30 := by omega
    subst e
    unfold fR_ValueMachineModel_many_L4
    rw [if_pos (show (30 : Int32) ≤ nI 30 from by decide)]
  | succ d ih =>
    intro k fuel hk hf
    obtain ⟨n, rfl⟩ : ∃ n, fuel = n + 1 := ⟨fuel - 1, by omega⟩
    have h := ih (k + 1) n (by omega) (by omega)
    have hu : cnt (gA st 8) (k + 1) = cnt (gA st 8) k + (if gA st 8 k = 0 then 0 else 1) := rfl
    unfold fR_ValueMachineModel_many_L4
    rw [if_neg (lit_ge (L := 30) (k := k) (n := 30) rfl (by omega) (by decide)), if_neg (nI_in (by omega) (by omega)), nI_clamp (by omega), nI_1]
    by_cases hz : gA st 8 k = 0
    · rw [hu, if_pos hz, Nat.add_zero] at h
      rw [if_pos hz, Int32.add_zero]
      exact h
    · rw [hu, if_neg hz] at h
      rw [if_neg hz, nI_1]
      exact h
theorem many_eq {N : Nat} {st : SG} (hN : 31 ≤ N) : fR_ValueMachineModel_many N st = some (nI (cnt (gA st 8) 30), st) := by
  unfold fR_ValueMachineModel_many
  have h := many_L (N := N) (st := st) 30 0 N (by omega) (by omega)
  rw [show cnt (gA st 8) 0 = 0 from rfl, nI_0] at h
  exact h
theorem needs_1 (N : Nat) (st : SG) (w : Int32) : fR_ValueMachineModel_needs N st 1 w = some (1, st) := by
  unfold fR_ValueMachineModel_needs
  rw [if_neg (by decide : ¬ (1 : Int32) = 0), z_1, if_neg (fun z => z rfl)]
theorem needs_0 {N : Nat} {st : SG} {w : Int32} (h : gI st 16 = 0) : fR_ValueMachineModel_needs N st 0 w = some (0, uI st 16 w) := by
  unfold fR_ValueMachineModel_needs
  rw [if_pos rfl, if_pos h, z_0, if_neg (fun z => z rfl)]
theorem VOk_live {sz : Int32} {ts ts' : Nat → Int32} {s n : Int32} (h : VOk sz ts s n) (e : Thg s → ts' n.toNatClampNeg = ts n.toNatClampNeg) : VOk sz ts' s n := by
  rcases h with h | h | ⟨h, h0, h1, h2⟩ | h
  · exact Or.inl h
  · exact Or.inr (Or.inl h)
  · exact Or.inr (Or.inr (Or.inl ⟨h, h0, h1, (e h).trans h2⟩))
  · exact Or.inr (Or.inr (Or.inr h))
set_option maxHeartbeats 4000000 in
theorem sweep_both {N : Nat} {x m : SG} (hN : 200 ≤ N) (h : RB x m) (hfull : cnt (gA m 8) 30 = 30) : ∃ x' m', fX_ValueMachine_sweepIfFull N x = some ((), x') ∧ fR_ValueMachineModel_sweeps N m = some ((), m') ∧ RB x' m' ∧ FrX x x' ∧ FrM m m' := by
  obtain ⟨hC, ⟨a1, a2⟩, ⟨s1, s2, s3, s4⟩, hG, hNo, ⟨t1, t2⟩, hK, e5, e6, e10⟩ := h
  have hall := cnt_all hfull
  obtain ⟨k, hk, hk120⟩ : ∃ k : Nat, gI m 4 = nI k ∧ k ≤ 120 := ⟨(gI m 4).toInt.toNat, ti_of (by omega), by omega⟩
  have hkI : (gI m 4).toInt = (k : Int) := by rw [hk, ti_nI (by omega)]
  have htz : ∀ t, t < 30 → TZ (gA m 8 t) (gA m 9 t) (gA x 4 t) := fun t ht => (t2 t ht).2.elim (fun z => absurd z (hall t ht)) id
  have hz : ∀ t, t < 30 → 0 ≤ (gA m 9 t).toInt ∧ (gA m 9 t).toInt ≤ 20 := fun t ht => by
    rcases (htz t ht).1 with ⟨_, q⟩ | ⟨_, q⟩
    · rw [q]; decide
    · exact q
  have hE : ∀ t u : Nat, t < 30 → Edge (gA m 9) (gA m 10) (gA m 11) t u → u < 30 := by
    rintro t u ht ⟨j, q1, q2, q3⟩
    obtain ⟨p0, p1, _⟩ := VOk_thing (hK t ht (hall t ht) j q1).2 q2
    rw [← q3, ti_cl]; omega
  obtain ⟨fm, gm, m1, m2, m3⟩ := r_sweep (N := N) (m := m) (h := k) hN hk hk120 a2 (fun j hj => (s4 j (by omega)).2) (fun j hj => (hG j hj).2) hz (fun t ht j hj => (hK t ht (hall t ht) j hj).2) hE
  obtain ⟨Y, f, rows, g, c, ⟨f0, hY⟩, x1, x2, x3, x4, x5⟩ := x_sweep (N := N) (x := x) (h := k) hN (by rw [t1, hfull]; rfl) (by rw [s1, hk]) hk120 ⟨a1, a2⟩ (fun j hj => s4 j (by omega)) hG (fun t ht => ⟨(hz t ht).1, (hz t ht).2, (htz t ht).2⟩) (fun t ht j hj => hK t ht (hall t ht) j hj)
  subst hY
  have hfm := Mark_eq x1 m1
  obtain ⟨mc, mr, _⟩ := m1
  have hlive : ∀ t, t < 30 → ¬ fm t = 0 → gm t = gA m 8 t := fun t ht q => by rw [m2 t ht, if_neg q]
  have lt30 : ∀ {s n : Int32}, VOk (gI m 1) (gA m 8) s n → Thg s → n.toNatClampNeg < 30 := fun hv q => by
    obtain ⟨p0, p1, _⟩ := VOk_thing hv q
    rw [ti_cl]; omega
  have hgz : ∀ t, t < 30 → (gm t = 0 ↔ fm t = 0) := fun t ht => by
    rw [m2 t ht]
    by_cases q : fm t = 0
    · rw [if_pos q]; exact ⟨fun _ => q, fun _ => rfl⟩
    · rw [if_neg q]; exact ⟨fun z => absurd z (hall t ht), fun z => absurd z q⟩
  refine ⟨_, _, x5, m3, ⟨hC, ⟨a1, VOk_live a2 (fun q => hlive _ (lt30 a2 q) (mr _ (lt30 a2 q) (Or.inl ⟨q, rfl⟩)))⟩, ⟨s1, s2, s3, fun j hj => ?_⟩, fun j hj => ?_, hNo, ⟨?_, fun t ht => ?_⟩, fun t ht hgt j hj => ?_, e5, congrArg (· + 1) e6, e10⟩, ⟨rfl, rfl, rfl, rfl⟩, ⟨rfl, rfl, rfl, rfl, rfl, rfl, rfl, rfl, rfl⟩⟩
  · have hj : (j : Int) < (gI m 4).toInt := hj
    obtain ⟨p1, p2⟩ := s4 j hj
    exact ⟨p1, VOk_live p2 (fun q => hlive _ (lt30 p2 q) (mr _ (lt30 p2 q) (Or.inr (Or.inl ⟨j, by omega, q, rfl⟩))))⟩
  · obtain ⟨p1, p2⟩ := hG j hj
    exact ⟨p1, VOk_live p2 (fun q => hlive _ (lt30 p2 q) (mr _ (lt30 p2 q) (Or.inr (Or.inr ⟨j, hj, q, rfl⟩))))⟩
  · show nI c = nI (cnt gm 30)
    rw [x2, cnt_congr (fun t ht => (hfm t ht).trans (hgz t ht).symm)]
  · refine ⟨?_, ?_⟩
    · show g t = if gm t = 0 then 0 else 1
      rw [x4 t ht]
      by_cases q : f t = 0
      · rw [q, if_pos ((hgz t ht).mpr ((hfm t ht).mp q))]
      · rw [if_neg (fun z => q ((hfm t ht).mpr ((hgz t ht).mp z)))]
        exact (x3 t ht).elim (fun z => absurd z q) id
    · show gm t = 0 ∨ TZ (gm t) (gA m 9 t) (gA x 4 t)
      by_cases q : gm t = 0
      · exact Or.inl q
      · rw [hlive t ht (fun z => q ((hgz t ht).mpr z))]
        exact Or.inr (htz t ht)
  · have hgt : ¬ gm t = 0 := hgt
    have hj : (j : Int) < (gA m 9 t).toInt := hj
    obtain ⟨p1, p2⟩ := hK t ht (hall t ht) j hj
    refine ⟨p1, VOk_live p2 (fun q => hlive _ (lt30 p2 q) ?_)⟩
    exact mc t _ ht (fun z => hgt ((hgz t ht).mpr z)) ⟨j, hj, q, rfl⟩
/-! the free row, the new thing -/
theorem row_L {N : Nat} {st : SG} {t0 : Nat} (ht : t0 < 30) (hb : ∀ j, j < t0 → ¬ gA st 5 j = 0) (h0 : gA st 5 t0 = 0) : ∀ (d k fuel : Nat), k + d = t0 → d < fuel → fX_Store_freeRow_L2 N fuel (nI k) st = some (nI t0, st) := by
  intro d
  induction d with
  | zero =>
    intro k fuel hk hf
    obtain ⟨n, rfl⟩ : ∃ n, fuel = n + 1 := ⟨fuel - 1, by omega⟩
    have e : k = t0 := by omega
    subst e
    unfold fX_Store_freeRow_L2
    by_cases q : (29 : Int32) ≤ nI k
    · rw [if_pos q]
    · rw [if_neg q, if_neg (nI_in (by omega) (by omega)), nI_clamp (by omega), if_pos h0]
  | succ d ih =>
    intro k fuel hk hf
    obtain ⟨n, rfl⟩ : ∃ n, fuel = n + 1 := ⟨fuel - 1, by omega⟩
    unfold fX_Store_freeRow_L2
    rw [if_neg (lit_ge (L := 29) (k := k) (n := 29) rfl (by omega) (by decide)), if_neg (nI_in (by omega) (by omega)), nI_clamp (by omega), if_neg (hb k (by omega)), nI_1]
    exact ih (k + 1) n (by omega) (by omega)
theorem make_L {N : Nat} {v1 : Int32} {t0 z : Nat} (ht : t0 < 30) (hz : z ≤ 20) : ∀ (d k fuel : Nat) (st : SG) (p : Nat → Int64), k + d = z → d < fuel → (∀ j, j < k → p (20 * t0 + j) = 0) → ∃ p' : Nat → Int64, (∀ j, j < z → p' (20 * t0 + j) = 0) ∧ (∀ i, (i < 20 * t0 ∨ 20 * t0 + 20 ≤ i) → p' i = p i) ∧ fX_Store_make_L15 N fuel v1 (nI z) (nI t0) (nI (20 * t0)) (nI (20 * t0 + k)) (uB st 1 p) = some (pk v1 (nI t0), uI (uI (uA (uA (uB st 1 p') 4 (upd (gA st 4) t0 (nI z))) 5 (upd (gA st 5) t0 1)) 4 (gI st 4 + 1)) 5 (gI st 5 + 1)) := by
  intro d
  induction d with
  | zero =>
    intro k fuel st p hk hf hp
    obtain ⟨n, rfl⟩ : ∃ n, fuel = n + 1 := ⟨fuel - 1, by omega⟩
    have e : k = z := by omega
    subst e
    refine ⟨p, hp, fun _ _ => rfl, ?_⟩
    unfold fX_Store_make_L15
    rw [nI_add, if_pos (nI_le (Nat.le_refl _) (by omega)), if_neg (nI_in (by omega) (by omega)), if_neg (nI_in (by omega) (by omega)), x_of, gb_ok, nI_clamp (by omega), vn_1]
    rfl
  | succ d ih =>
    intro k fuel st p hk hf hp
    obtain ⟨n, rfl⟩ : ∃ n, fuel = n + 1 := ⟨fuel - 1, by omega⟩
    obtain ⟨p', h1, h2, h3⟩ := ih (k + 1) n st (vp_updL p (20 * t0 + k) 0) (by omega) (by omega) (fun j hj => by
      by_cases e : j = k
      · rw [e, pk_uLs]
      · rw [pk_uLn (by omega)]; exact hp j (by omega))
    refine ⟨p', h1, fun i hi => by rw [h2 i hi, pk_uLn (by omega)], ?_⟩
    unfold fX_Store_make_L15
    rw [nI_add, if_neg (nI_ge (by omega) (by omega)), if_neg (nI_in (by omega) (by omega)), nI_clamp (by omega), show gB (uB st 1 p) 1 = p from rfl, uB_uB, nI_1]
    exact h3
theorem r85 {N : Nat} {t0 : Nat} (ht : t0 < 30) : ∀ (d k fuel : Nat) (st : SG) (p q : Nat → Int32), k + d = 20 → d < fuel → (∀ j, j < k → p (20 * t0 + j) = 0 ∧ q (20 * t0 + j) = 0) → ∃ p' q' : Nat → Int32, (∀ j, j < 20 → p' (20 * t0 + j) = 0 ∧ q' (20 * t0 + j) = 0) ∧ (∀ i, (i < 20 * t0 ∨ 20 * t0 + 20 ≤ i) → p' i = p i ∧ q' i = q i) ∧ fR_ValueMachineModel_makes_L85 N fuel (nI t0) (nI k) (uA (uA st 10 p) 11 q) = some (nI t0, uA (uA st 10 p') 11 q') := by
  intro d
  induction d with
  | zero =>
    intro k fuel st p q hk hf hp
    obtain ⟨n, rfl⟩ : ∃ n, fuel = n + 1 := ⟨fuel - 1, by omega⟩
    have e : k = 20 := by omega
    subst e
    refine ⟨p, q, hp, fun _ _ => ⟨rfl, rfl⟩, ?_⟩
    unfold fR_ValueMachineModel_makes_L85
    rw [if_pos (show (20 : Int32) ≤ nI 20 from by decide)]
  | succ d ih =>
    intro k fuel st p q hk hf hp
    obtain ⟨n, rfl⟩ : ∃ n, fuel = n + 1 := ⟨fuel - 1, by omega⟩
    obtain ⟨p', q', h1, h2, h3⟩ := ih (k + 1) n st (upd p (20 * t0 + k) 0) (upd q (20 * t0 + k) 0) (by omega) (by omega) (fun j hj => by
      by_cases e : j = k
      · rw [e, pk_us, pk_us]; exact ⟨rfl, rfl⟩
      · rw [pk_un (by omega), pk_un (by omega)]; exact hp j (by omega))
    refine ⟨p', q', h1, fun i hi => by rw [(h2 i hi).1, (h2 i hi).2, pk_un (by omega), pk_un (by omega)]; exact ⟨rfl, rfl⟩, ?_⟩
    have hU : uA (uA (uA (uA st 10 p) 11 q) 10 (upd p (20 * t0 + k) 0)) 11 (upd q (20 * t0 + k) 0) = uA (uA st 10 (upd p (20 * t0 + k) 0)) 11 (upd q (20 * t0 + k) 0) := by
      have h : ∀ (A : Nat → Nat → Int32) (a b c e : Nat → Int32), va_up (va_up (va_up (va_up A 10 a) 11 b) 10 c) 11 e = va_up (va_up A 10 c) 11 e := by
        intro A a b c e
        funext j
        unfold va_up
        by_cases e1 : j = 11
        · rw [if_pos e1, if_pos e1]
        · rw [if_neg e1, if_neg e1, if_neg e1]
          by_cases e2 : j = 10
          · rw [if_pos e2, if_pos e2]
          · rw [if_neg e2, if_neg e2, if_neg e2]
      show (st.1, st.2.1, va_up (va_up (va_up (va_up st.2.2.1 10 p) 11 q) 10 _) 11 _, st.2.2.2) = (st.1, st.2.1, va_up (va_up st.2.2.1 10 _) 11 _, st.2.2.2)
      rw [h]
    unfold fR_ValueMachineModel_makes_L85
    rw [if_neg (lit_ge (L := 20) (k := k) (n := 20) rfl (by omega) (by decide)), n20, if_neg (nI_in (by omega) (by omega)), if_neg (nI_in (by omega) (by omega)), nI_clamp (by omega), show gA (uA (uA st 10 p) 11 q) 10 = p from rfl, show gA (uA (uA st 10 p) 11 q) 11 = q from rfl, hU, nI_1]
    exact h3
theorem r15_free {N : Nat} {st : SG} {v1 v2 : Int32} {t0 : Nat} (ht : t0 < 30) (hb : ∀ j, j < t0 → ¬ gA st 8 j = 0) (h0 : gA st 8 t0 = 0) : ∀ (d k fuel : Nat), k + d = t0 → d < fuel → fR_ValueMachineModel_makes_L15 N fuel v1 v2 (nI k) st = fR_ValueMachineModel_makes_L85 N N (nI t0) 0 (uA (uA (uI st 12 (gI st 12 + 1)) 8 (upd (gA st 8) t0 v1)) 9 (upd (gA st 9) t0 v2)) := by
  intro d
  induction d with
  | zero =>
    intro k fuel hk hf
    obtain ⟨n, rfl⟩ : ∃ n, fuel = n + 1 := ⟨fuel - 1, by omega⟩
    have e : k = t0 := by omega
    subst e
    have hl := lit_ge (L := 30) (k := k) (n := 30) rfl (by omega) (by decide)
    have hi := nI_in (c := k) (N := 30) (by omega) (by decide)
    rw [nI_clamp (by omega)] at hi
    unfold fR_ValueMachineModel_makes_L15
    rw [if_neg hl, nI_clamp (by omega), if_neg hi, if_pos h0, if_neg hl, needs_1, gb_ok, if_neg (by decide : ¬ (1 : Int32) = 0), if_neg hi, if_neg hi]
  | succ d ih =>
    intro k fuel hk hf
    obtain ⟨n, rfl⟩ : ∃ n, fuel = n + 1 := ⟨fuel - 1, by omega⟩
    have hl := lit_ge (L := 30) (k := k) (n := 30) rfl (by omega) (by decide)
    have hi := nI_in (c := k) (N := 30) (by omega) (by decide)
    rw [nI_clamp (by omega)] at hi
    unfold fR_ValueMachineModel_makes_L15
    rw [if_neg hl, nI_clamp (by omega), if_neg hi, if_neg (hb k (by omega)), nI_1]
    exact ih (k + 1) n (by omega) (by omega)
theorem r15_full {N : Nat} {st : SG} {v1 v2 : Int32} (hw : gI st 16 = 0) (hb : ∀ j, j < 30 → ¬ gA st 8 j = 0) : ∀ (d k fuel : Nat), k + d = 30 → d < fuel → fR_ValueMachineModel_makes_L15 N fuel v1 v2 (nI k) st = some (-1, uI st 16 6) := by
  intro d
  induction d with
  | zero =>
    intro k fuel hk hf
    obtain ⟨n, rfl⟩ : ∃ n, fuel = n + 1 := ⟨fuel - 1, by omega⟩
    have e : k = 30 := by omega
    subst e
    have hl : (30 : Int32) ≤ nI 30 := by decide
    unfold fR_ValueMachineModel_makes_L15
    rw [if_pos hl, if_pos hl, needs_0 hw, gb_ok, if_pos rfl]
  | succ d ih =>
    intro k fuel hk hf
    obtain ⟨n, rfl⟩ : ∃ n, fuel = n + 1 := ⟨fuel - 1, by omega⟩
    have hl := lit_ge (L := 30) (k := k) (n := 30) rfl (by omega) (by decide)
    have hi := nI_in (c := k) (N := 30) (by omega) (by decide)
    rw [nI_clamp (by omega)] at hi
    unfold fR_ValueMachineModel_makes_L15
    rw [if_neg hl, nI_clamp (by omega), if_neg hi, if_neg (hb k (by omega)), nI_1]
    exact ih (k + 1) n (by omega) (by omega)
